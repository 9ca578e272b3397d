/-! CONSTRUCTORS: the layer over a list of cells -/
def AOz (U : State) : Prop := va_AO "SeparationMonitor$Partition" U ∧ va_AO "SeparationMonitor$Channel" U ∧ va_AO "SeparationMonitor$Slot" U
theorem AOz.moved {u U : State} (hvm : u.vm.Alike U.vm) (h : AOz u) : AOz U := ⟨h.1.moved hvm, h.2.1.moved hvm, h.2.2.moved hvm⟩
def Cn (p : Program) (s : State) (m : MethodId) (args : Array Value) (meth : Method) (c : Code) (D : va_G) (cA : Nat → ClassId) (A : Nat → Prop) (cc : ByteArray) (nL : Nat) (own : String) : Prop :=
  p.tables.exec = Jvm.exec ∧ c.code = cc ∧ c.maxLocals = nL ∧ s.vm.findClass own = some m.cls ∧ (∀ w ∈ gw, w.before args s = true) ∧ va_K D vwCl (tyL cA) s ∧ AOz s ∧ (∀ q, s.heap.size ≤ q → A q) ∧ meth.locks = false
def Wn (p : Program) (l : Launch) (e : Env) (R : Room) (s : State) (m : MethodId) (args : Array Value) (below : List Frame) (meth : Method) (c : Code) (D : va_G) (A : Nat → Prop) (nL : Nat) (cells slots : Nat) (Q : State → Prop) (pc : Nat) (lv : List (Nat × Value)) (st : List Value) (ws : va_W) : Prop :=
  ∀ (H : Heap) (locs : List Loc) (ls : Array Slot), va_P D vwCl ws H → va_D A ws → va_S A s.heap H locs → lv_has ls nL lv → W p l e R s m args below meth c H locs cells slots Q (F0 m pc ls st)
section WN
variable {p : Program} {l : Launch} {e : Env} {R : Room} {s : State} {m : MethodId} {args : Array Value} {below : List Frame} {meth : Method} {c : Code} {D : va_G} {cA : Nat → ClassId} {A : Nat → Prop} {cc : ByteArray} {nL : Nat} {own : String} {cells slots : Nat} {Q : State → Prop} {pc : Nat} {lv lv' : List (Nat × Value)} {st : List Value} {ws ws' : va_W}
theorem n_iconst (X : Cn p s m args meth c D cA A cc nL own) {k : Int} {v : Int32} (d : decode cc pc = .ok (.iconst k, 1)) (hv : Int32.ofInt k = v) (kk : Wn p l e R s m args below meth c D A nL cells slots Q (pc + 1) lv (.int v :: st) ws) : Wn p l e R s m args below meth c D A nL cells slots Q pc lv st ws :=
  fun H locs ls hP hD hS hl => lv_iconst X.1 X.2.1 d hv (kk H locs ls hP hD hS hl)
theorem n_bipush (X : Cn p s m args meth c D cA A cc nL own) {k : Int} {v : Int32} (d : decode cc pc = .ok (.bipush k, 2)) (hv : (Int8.ofInt k).toInt32 = v) (kk : Wn p l e R s m args below meth c D A nL cells slots Q (pc + 2) lv (.int v :: st) ws) : Wn p l e R s m args below meth c D A nL cells slots Q pc lv st ws :=
  fun H locs ls hP hD hS hl => lv_bipush X.1 X.2.1 d hv (kk H locs ls hP hD hS hl)
theorem n_sipush (X : Cn p s m args meth c D cA A cc nL own) {k : Int} {v : Int32} (d : decode cc pc = .ok (.sipush k, 3)) (hv : (Int16.ofInt k).toInt32 = v) (kk : Wn p l e R s m args below meth c D A nL cells slots Q (pc + 3) lv (.int v :: st) ws) : Wn p l e R s m args below meth c D A nL cells slots Q pc lv st ws :=
  fun H locs ls hP hD hS hl => lv_sipush X.1 X.2.1 d hv (kk H locs ls hP hD hS hl)
theorem n_iload_n (X : Cn p s m args meth c D cA A cc nL own) {k : Fin 4} {i : Nat} {x : Int32} (q : Nat) (d : decode cc pc = .ok (.iload_n k, 1)) (hi : (k : Nat) = i) (hk : lv[q]? = some (i, .int x)) (kk : Wn p l e R s m args below meth c D A nL cells slots Q (pc + 1) lv (.int x :: st) ws) : Wn p l e R s m args below meth c D A nL cells slots Q pc lv st ws :=
  fun H locs ls hP hD hS hl => lv_iload_n X.1 X.2.1 d hi (lv_at hl q hk) (kk H locs ls hP hD hS hl)
theorem n_aload_n (X : Cn p s m args meth c D cA A cc nL own) {k : Fin 4} {i : Nat} {x : Nat} (q : Nat) (d : decode cc pc = .ok (.aload_n k, 1)) (hi : (k : Nat) = i) (hk : lv[q]? = some (i, .ref x)) (kk : Wn p l e R s m args below meth c D A nL cells slots Q (pc + 1) lv (.ref x :: st) ws) : Wn p l e R s m args below meth c D A nL cells slots Q pc lv st ws :=
  fun H locs ls hP hD hS hl => lv_aload_n X.1 X.2.1 d hi (lv_at hl q hk) (kk H locs ls hP hD hS hl)
theorem n_istore_n (X : Cn p s m args meth c D cA A cc nL own) {k : Fin 4} {i : Nat} {x : Int32} (d : decode cc pc = .ok (.istore_n k, 1)) (hi : (k : Nat) = i) (hn : i < nL) (hl' : (i, Value.int x) :: lv.filter (fun q => !(q.1 == i) && !(q.1 + 1 == i && q.2.category == 2)) = lv') (kk : Wn p l e R s m args below meth c D A nL cells slots Q (pc + 1) lv' st ws) : Wn p l e R s m args below meth c D A nL cells slots Q pc lv (.int x :: st) ws :=
  fun H locs ls hP hD hS hl => lv_istore_n X.1 X.2.1 d hi hl hn hl' (fun ls' hl2 => kk H locs ls' hP hD hS hl2)
theorem n_istore (X : Cn p s m args meth c D cA A cc nL own) {i : Nat} {x : Int32} (d : decode cc pc = .ok (.istore i, 2)) (hn : i < nL) (hl' : (i, Value.int x) :: lv.filter (fun q => !(q.1 == i) && !(q.1 + 1 == i && q.2.category == 2)) = lv') (kk : Wn p l e R s m args below meth c D A nL cells slots Q (pc + 2) lv' st ws) : Wn p l e R s m args below meth c D A nL cells slots Q pc lv (.int x :: st) ws :=
  fun H locs ls hP hD hS hl => lv_istore X.1 X.2.1 d hl hn hl' (fun ls' hl2 => kk H locs ls' hP hD hS hl2)
theorem n_astore_n (X : Cn p s m args meth c D cA A cc nL own) {k : Fin 4} {i : Nat} {x : Nat} (d : decode cc pc = .ok (.astore_n k, 1)) (hi : (k : Nat) = i) (hn : i < nL) (hl' : (i, Value.ref x) :: lv.filter (fun q => !(q.1 == i) && !(q.1 + 1 == i && q.2.category == 2)) = lv') (kk : Wn p l e R s m args below meth c D A nL cells slots Q (pc + 1) lv' st ws) : Wn p l e R s m args below meth c D A nL cells slots Q pc lv (.ref x :: st) ws :=
  fun H locs ls hP hD hS hl => lv_astore_n X.1 X.2.1 d hi hl hn hl' (fun ls' hl2 => kk H locs ls' hP hD hS hl2)
theorem n_iinc (X : Cn p s m args meth c D cA A cc nL own) {i : Nat} {k : Int} {x v : Int32} (q : Nat) (d : decode cc pc = .ok (.iinc i k, 3)) (hk : lv[q]? = some (i, .int x)) (hv : x + Int32.ofInt k = v) (hn : i < nL) (hl' : (i, Value.int v) :: lv.filter (fun q => !(q.1 == i) && !(q.1 + 1 == i && q.2.category == 2)) = lv') (kk : Wn p l e R s m args below meth c D A nL cells slots Q (pc + 3) lv' st ws) : Wn p l e R s m args below meth c D A nL cells slots Q pc lv st ws :=
  fun H locs ls hP hD hS hl => lv_iinc X.1 X.2.1 d hl hk hv hn hl' (fun ls' hl2 => kk H locs ls' hP hD hS hl2)
theorem n_dup (X : Cn p s m args meth c D cA A cc nL own) {va : Value} (d : decode cc pc = .ok (.dup, 1)) (hv : va.category = 1) (kk : Wn p l e R s m args below meth c D A nL cells slots Q (pc + 1) lv (va :: va :: st) ws) : Wn p l e R s m args below meth c D A nL cells slots Q pc lv (va :: st) ws :=
  fun H locs ls hP hD hS hl => lv_dup X.1 X.2.1 d hv (kk H locs ls hP hD hS hl)
theorem n_goto (X : Cn p s m args meth c D cA A cc nL own) {off : Int} {tgt : Nat} (d : decode cc pc = .ok (.goto off, 3)) (ht : (pc : Int) + off = (tgt : Int)) (kk : Wn p l e R s m args below meth c D A nL cells slots Q tgt lv st ws) : Wn p l e R s m args below meth c D A nL cells slots Q pc lv st ws :=
  fun H locs ls hP hD hS hl => lv_goto X.1 X.2.1 d ht (kk H locs ls hP hD hS hl)
theorem n_icmp_ge (X : Cn p s m args meth c D cA A cc nL own) {x y : Int32} {off : Int} (tgt : Nat) (d : decode cc pc = .ok (.if_icmp .ge off, 3)) (ht : (pc : Int) + off = (tgt : Int)) (kt : y ≤ x → Wn p l e R s m args below meth c D A nL cells slots Q tgt lv st ws) (kf : ¬ y ≤ x → Wn p l e R s m args below meth c D A nL cells slots Q (pc + 3) lv st ws) : Wn p l e R s m args below meth c D A nL cells slots Q pc lv (.int y :: .int x :: st) ws :=
  fun H locs ls hP hD hS hl => lv_icmp_ge X.1 X.2.1 d ht (fun h => kt h H locs ls hP hD hS hl) (fun h => kf h H locs ls hP hD hS hl)
theorem n_lv (is : List Nat) (h : lv_pick lv is = lv') (kk : Wn p l e R s m args below meth c D A nL cells slots Q pc lv' st ws) : Wn p l e R s m args below meth c D A nL cells slots Q pc lv st ws :=
  fun H locs ls hP hD hS hl => kk H locs ls hP hD hS (lv_sub hl is h)
theorem n_putF (X : Cn p s m args meth c D cA A cc nL own) (hin2 : meth.name = "<init>") {ci ix N k a : Nat} {ref C : String} {T : u_T} {fs : List Value} (q0 : Nat) (he : ws[q0]? = some (a, .inr (ci, fs))) (hc : vwCl[ci]? = some (C, T, N)) (hin : ∀ w ∈ u_ws C T N, w ∈ gw) (hk : k < N) (ty0 : Nat → FieldType) (hty : ∀ k, k < N → parseFieldDescriptor (T k).2.2.1 = some (ty0 k)) (hnm : ∀ a, a < N → ∀ b, b < N → a ≠ b → (T a).2.1 ≠ (T b).2.1) (hw : Cond.fieldLink own ix ref (T k).2.1 (T k).2.2.1 ∈ gw) (hsm : ref = (T k).1) (hfin : (T k).2.2.2 = true) (hdecl : (T k).1 = own) {ty : FieldType} {v : Value} (hd : parseFieldDescriptor (T k).2.2.1 = some ty) (hn : narrow ty v = v) (hfit : fits ty v = true) (hl9 : k < fs.length) (d : decode cc pc = .ok (.putfield ix, 3)) (hws : ws.set q0 (a, .inr (ci, fs.set k v)) = ws') (kk : Wn p l e R s m args below meth c D A nL cells slots Q (pc + 3) lv st ws') : Wn p l e R s m args below meth c D A nL cells slots Q pc lv (v :: .ref a :: st) ws := by
  subst hws
  intro H locs ls hP hD hS hl
  exact va_putF X.1 X.2.1 X.2.2.2.2.1 hin ty0 hty hnm X.2.2.2.1 X.2.2.2.2.2.1 hP hD hS q0 he hc k hk (X.2.2.2.2.1 _ hw) (by subst hsm; exact fun _ h9 => h9) hfin hin2 hdecl hd hn hfit hl9 d (fun H1 locs1 hP1 hD1 hS1 => kk H1 locs1 ls hP1 hD1 hS1 hl)
theorem n_put (X : Cn p s m args meth c D cA A cc nL own) {ci ix N k a : Nat} {ref C : String} {T : u_T} {fs : List Value} (q0 : Nat) (he : ws[q0]? = some (a, .inr (ci, fs))) (hc : vwCl[ci]? = some (C, T, N)) (hin : ∀ w ∈ u_ws C T N, w ∈ gw) (hk : k < N) (ty0 : Nat → FieldType) (hty : ∀ k, k < N → parseFieldDescriptor (T k).2.2.1 = some (ty0 k)) (hnm : ∀ a, a < N → ∀ b, b < N → a ≠ b → (T a).2.1 ≠ (T b).2.1) (hw : Cond.fieldLink own ix ref (T k).2.1 (T k).2.2.1 ∈ gw) (hsm : ref = (T k).1) (hfin : (T k).2.2.2 = false) {ty : FieldType} {v : Value} (hd : parseFieldDescriptor (T k).2.2.1 = some ty) (hn : narrow ty v = v) (hfit : fits ty v = true) (hl9 : k < fs.length) (d : decode cc pc = .ok (.putfield ix, 3)) (hws : ws.set q0 (a, .inr (ci, fs.set k v)) = ws') (kk : Wn p l e R s m args below meth c D A nL cells slots Q (pc + 3) lv st ws') : Wn p l e R s m args below meth c D A nL cells slots Q pc lv (v :: .ref a :: st) ws := by
  subst hws
  intro H locs ls hP hD hS hl
  exact va_put X.1 X.2.1 X.2.2.2.2.1 hin ty0 hty hnm X.2.2.2.1 X.2.2.2.2.2.1 hP hD hS q0 he hc k hk (X.2.2.2.2.1 _ hw) (by subst hsm; exact fun _ h9 => h9) hfin hd hn hfit hl9 d (fun H1 locs1 hP1 hD1 hS1 => kk H1 locs1 ls hP1 hD1 hS1 hl)
theorem n_get (X : Cn p s m args meth c D cA A cc nL own) {ci ix N k a : Nat} {ref C : String} {T : u_T} {fs : List Value} {v : Value} (q0 : Nat) (he : ws[q0]? = some (a, .inr (ci, fs))) (hc : vwCl[ci]? = some (C, T, N)) (hin : ∀ w ∈ u_ws C T N, w ∈ gw) (hk : k < N) (hw : Cond.fieldLink own ix ref (T k).2.1 (T k).2.2.1 ∈ gw) (hsm : ref = (T k).1) (hv : fs[k]? = some v) (d : decode cc pc = .ok (.getfield ix, 3)) (kk : Wn p l e R s m args below meth c D A nL cells slots Q (pc + 3) lv (v :: st) ws) : Wn p l e R s m args below meth c D A nL cells slots Q pc lv (.ref a :: st) ws :=
  fun H locs ls hP hD hS hl => va_get X.1 X.2.1 X.2.2.2.2.1 hin X.2.2.2.1 X.2.2.2.2.2.1 hP q0 he hc k hk (X.2.2.2.2.1 _ hw) (by subst hsm; exact fun _ h9 => h9) hv d (kk H locs ls hP hD hS hl)
theorem n_new (X : Cn p s m args meth c D cA A cc nL own) {ci ix N : Nat} {C : String} {T : u_T} {fs : List Value} (hc : vwCl[ci]? = some (C, T, N)) (hin : ∀ w ∈ u_ws C T N, w ∈ gw) (ty0 : Nat → FieldType) (hty : ∀ k, k < N → parseFieldDescriptor (T k).2.2.1 = some (ty0 k)) (hw : Cond.classLink own ix C ∈ gw) (hw2 : Cond.instantiable C N ∈ gw) (hw3 : Cond.initialized C ∈ gw) (hfs : ∀ j, j < N → defaultValue (ty0 j) = vp_V fs j) (hcells : cells + 1 ≤ R.cells) (hslots : slots + N ≤ R.slots) (d : decode cc pc = .ok (.new ix, 3)) (kk : ∀ q : Nat, Wn p l e R s m args below meth c D A nL (cells + 1) (slots + N) Q (pc + 3) lv (.ref q :: st) (ws ++ [(q, .inr (ci, fs))])) : Wn p l e R s m args below meth c D A nL cells slots Q pc lv st ws :=
  fun H locs ls hP hD hS hl => va_new X.1 X.2.1 X.2.2.2.2.1 hin ty0 hty X.2.2.2.1 (X.2.2.2.2.1 _ hw) (X.2.2.2.2.1 _ hw2) (X.2.2.2.2.1 _ hw3) X.2.2.2.2.2.1 hP hD hS X.2.2.2.2.2.2.2.1 hc hfs hcells hslots d (fun q H1 hP1 hD1 hS1 => kk q H1 locs ls hP1 hD1 hS1 hl)
theorem kEq {ty : FieldType} {c1 : ClassId} (hK : va_K D vwCl (tyL cA) s) (hK1 : va_K D vwCl (tyL cA ++ [(c1, ty)]) s) {i : Nat} {c0 : ClassId} (hi : (tyL cA)[i]? = some (c0, ty)) : c1 = c0 := by
  have h0 := (hK.2 i _ hi).2
  have h1 := (hK1.2 6 (c1, ty) rfl).2
  cases ty with
  | object C =>
    obtain ⟨_, _, _, _, _, e0⟩ := h0
    obtain ⟨_, _, _, _, _, e1⟩ := h1
    exact Option.some.inj (e1.symm.trans e0)
  | _ => exact Option.some.inj (h1.symm.trans h0)
theorem n_newa (X : Cn p s m args meth c D cA A cc nL own) {atype : ArrayType} {ty : FieldType} (hty : newarray.typeOf atype = ty) (hw : Cond.arrayClass ty ∈ gw) {t0 : Nat} {c0 : ClassId} (ht : (tyL cA)[t0]? = some (c0, ty)) {n : Int32} {N' : Nat} {a0 : vp_A} (ha : ∀ c9 : ClassId, vp_cell c9 a0 = arrV c9 N' (fun _ => defaultValue ty)) (hn : ¬ n < 0) (hN : n.toNatClampNeg = N') (hbytes : N' * componentBytes ty ≤ 536870912) (hcells : cells + 1 ≤ R.cells) (hslots : slots + N' ≤ R.slots) (d : decode cc pc = .ok (.newarray atype, 2)) (kk : ∀ q : Nat, Wn p l e R s m args below meth c D A nL (cells + 1) (slots + N') Q (pc + 2) lv (.ref q :: st) (ws ++ [(q, .inl (c0, a0))])) : Wn p l e R s m args below meth c D A nL cells slots Q pc lv (.int n :: st) ws := by
  intro H locs ls hP hD hS hl
  refine va_newa X.1 X.2.1 (by rw [hty]; exact X.2.2.2.2.1 _ hw) hty X.2.2.2.2.2.1 hP hD hS X.2.2.2.2.2.2.2.1 ha hn hN hbytes hcells hslots d (fun q c1 H1 hK1 hP1 hD1 hS1 => ?_)
  obtain rfl := kEq X.2.2.2.2.2.1 hK1 ht
  exact kk q H1 locs ls hP1 hD1 hS1 hl
theorem n_newq (X : Cn p s m args meth c D cA A cc nL own) {C : String} {ix : Nat} (hw : Cond.classLink own ix C ∈ gw) (hover : va_AO C s) {t0 : Nat} {c0 : ClassId} (ht : (tyL cA)[t0]? = some (c0, .object C)) {n : Int32} {N' : Nat} (hn : ¬ n < 0) (hN : n.toNatClampNeg = N') (hbytes : N' * 4 ≤ 536870912) (hcells : cells + 1 ≤ R.cells) (hslots : slots + N' ≤ R.slots) (d : decode cc pc = .ok (.anewarray ix, 3)) (kk : ∀ q : Nat, Wn p l e R s m args below meth c D A nL (cells + 1) (slots + N') Q (pc + 3) lv (.ref q :: st) (ws ++ [(q, .inl (c0, N', .inr (.inr (.inr (.inr (fun _ => none))))))])) : Wn p l e R s m args below meth c D A nL cells slots Q pc lv (.int n :: st) ws := by
  intro H locs ls hP hD hS hl
  refine va_newq X.1 X.2.1 X.2.2.2.1 (X.2.2.2.2.1 _ hw) hover X.2.2.2.2.2.1 hP hD hS X.2.2.2.2.2.2.2.1 hn hN hbytes hcells hslots d (fun q c1 H1 hK1 hP1 hD1 hS1 => ?_)
  obtain rfl := kEq X.2.2.2.2.2.1 hK1 ht
  exact kk q H1 locs ls hP1 hD1 hS1 hl
theorem n_astq (X : Cn p s m args meth c D cA A cc nL own) (q0 t0 qk ci : Nat) {c0 : ClassId} {r : vw_C} {n v a : Nat} {vs : List Value} {f : Nat → Option Nat} (ha : ws[q0]? = some (a, .inl (c0, n, .inr (.inr (.inr (.inr f)))))) (ht : (tyL cA)[t0]? = some (c0, .object r.1)) (hv : ws[qk]? = some (v, .inr (ci, vs))) (hc : vwCl[ci]? = some r) {i : Int32} (hin : vp_in i n) (d : decode cc pc = .ok (.aastore, 1)) (hws : ws.set q0 (a, .inl (c0, n, .inr (.inr (.inr (.inr (va_up f i.toNatClampNeg (some v))))))) = ws') (kk : Wn p l e R s m args below meth c D A nL cells slots Q (pc + 1) lv st ws') : Wn p l e R s m args below meth c D A nL cells slots Q pc lv (.ref v :: .int i :: .ref a :: st) ws := by
  subst hws
  intro H locs ls hP hD hS hl
  exact va_astq X.1 X.2.1 X.2.2.2.2.2.1 hP hD hS q0 t0 qk ci ha ht hv hc hin d (fun H1 locs1 hP1 hD1 hS1 => kk H1 locs1 ls hP1 hD1 hS1 hl)
theorem n_iast (X : Cn p s m args meth c D cA A cc nL own) (q0 t0 : Nat) {c0 : ClassId} {n a : Nat} {f : Nat → Int32} (ha : ws[q0]? = some (a, .inl (c0, n, .inl f))) (ht : (tyL cA)[t0]? = some (c0, .int)) {i x : Int32} (hin : vp_in i n) (d : decode cc pc = .ok (.iastore, 1)) (hws : ws.set q0 (a, .inl (c0, n, .inl (upd f i.toNatClampNeg x))) = ws') (kk : Wn p l e R s m args below meth c D A nL cells slots Q (pc + 1) lv st ws') : Wn p l e R s m args below meth c D A nL cells slots Q pc lv (.int x :: .int i :: .ref a :: st) ws := by
  subst hws
  intro H locs ls hP hD hS hl
  exact va_iast X.1 X.2.1 X.2.2.2.2.2.1 hP hD hS q0 t0 ha ht hin d (fun H1 locs1 hP1 hD1 hS1 => kk H1 locs1 ls hP1 hD1 hS1 hl)
theorem n_obj (X : Cn p s m args meth c D cA A cc nL own) {ix a : Nat} (hw : Cond.methodLink own ix objectInit ∈ gw) (hw2 : Cond.instanceMethod objectInit ∈ gw) (hw3 : Cond.code objectInit ⟨#[0xb1]⟩ 1 none ∈ gw) (hR : 1 ≤ R.frames) (hR2 : 12 ≤ R.locals) (d : decode cc pc = .ok (.invokespecial ix, 3)) (kk : Wn p l e R s m args below meth c D A nL cells slots Q (pc + 3) lv [] ws) : Wn p l e R s m args below meth c D A nL cells slots Q pc lv [.ref a] ws := by
  intro H locs ls hP hD hS hl
  refine W.objInit X.1 X.2.1 X.2.2.2.1 (X.2.2.2.2.1 _ hw) (X.2.2.2.2.1 _ hw2) (X.2.2.2.2.1 _ hw3) rfl (by rw [X.2.2.1]; exact hl.1) rfl d (by omega) (by have h9 : (F0 m pc ls [Value.ref a]).monitorRoom = 0 := rfl; simp only [List.map_nil, List.sum_nil, h9]; omega) ?_
  exact W.eq (g2 := F0 m (pc + 3) ls []) rfl (kk H locs ls hP hD hS hl)
def Pn (D : va_G) (cA : Nat → ClassId) (w0 : va_W) (sz : Nat) (U : State) : Prop := U.heap.size = sz ∧ va_P D vwCl w0 U.heap ∧ va_K D vwCl (tyL cA) U ∧ AOz U ∧ va_D (fun _ => True) w0
theorem Pn.blind {w0 : va_W} {sz : Nat} {As : List Value} : FrameBlind (va_Pc As (Pn D cA w0 sz)) := by
  intro a U g mk q
  obtain ⟨q0, q1, qP, qK, qO, qD⟩ := q
  exact ⟨q0, q1, qP, va_K.moved (u := U) (U := U.calling g mk a) (Vm.Alike.refl U.vm) qK, AOz.moved (u := U) (U := U.calling g mk a) (Vm.Alike.refl U.vm) qO, qD⟩
def CN (l : Launch) (D : va_G) (cA : Nat → ClassId) (y : MethodName) (cc : ByteArray) (nL d mc ms : Nat) (As : List Value) (w0 : va_W) (Bs : va_W → Prop) : Prop :=
  ∀ sz : Nat, Met l y (Cond.code y cc nL none :: gw) (Rq d mc ms) (va_Pc As (Pn D cA w0 sz)) (va_Qv (fun w1 : va_W => Bs w1) (fun w1 t => va_P D vwCl w1 t.heap ∧ va_D (va_A w0 sz) w1) (va_A w0 sz)) mc ms (va_A w0 sz)
theorem CN.of {y : MethodName} {dp mc ms : Nat} {As : List Value} {w0 : va_W} {Bs : va_W → Prop} (hy : plainName y.cls = true) (hyn : y.name = "<init>") (hL : (lg_sl As).length ≤ nL)
    (body : ∀ (p : Program) (e : Env) (s : State) (m : MethodId) (args : Array Value) (below : List Frame) (meth : Method) (c : Code) (A : Nat → Prop) (Q : State → Prop), Cn p s m args meth c D cA A cc nL y.cls → meth.name = "<init>" →
      (∀ (pc : Nat) (lv : List (Nat × Value)) (cells slots : Nat) (w1 : va_W), Bs w1 → cells ≤ mc → slots ≤ ms → decode cc pc = .ok (.return_, 1) → Wn p l e (Rq dp mc ms) s m args below meth c D A nL cells slots Q pc lv [] w1) → Wn p l e (Rq dp mc ms) s m args below meth c D A nL 0 0 Q 0 (lv_args 0 As) [] w0) : CN l D cA y cc nL dp mc ms As w0 Bs := by
  intro sz
  refine Met.ofW (cc := cc) (maxL := nL) (ret := none) hy rfl ?_
  intro p e s m args below meth c s₁ B hml hv
  obtain ⟨rfl, hsz, hP, hK, hO, hD0⟩ := hv
  subst hsz
  have hD := hD0.self (sz := s.heap.size)
  have X : Cn p s m As.toArray meth c D cA (va_A w0 s.heap.size) cc nL y.cls := ⟨B.exec, B.bytes, hml, findClass_of_methodNamed B.named, fun w h => atoms_spec (ws := Cond.code y cc nL none :: gw) B.pre w (List.mem_cons_of_mem _ h), hK, hO, fun q h => Or.inr h, B.notSynchronized⟩
  have hin2 : meth.name = "<init>" := ((name_of_methodNamed B.named B.method).1).trans hyn
  have hl := lv_entry As (n := nL) hL
  rw [lg_entry_eq]
  exact body p e s m As.toArray below meth c _ _ X hin2 (fun pc lv cells slots w1 hB hc hs d9 H1 locs1 ls1 hP1 hD1 hS1 hl1 => W.widen (k := mc) (n := ms) hc hs (W.vret X.1 X.2.1 B.returns (fun t ht hW => ⟨⟨w1, rfl, hB, by rw [ht]; exact hP1, hD1⟩, hS1.F ht⟩) hS1.2.2 d9 B.notSynchronized)) s.heap [] _ hP hD va_S.rf hl
theorem n_call (X : Cn p s m args meth c D cA A cc nL own) {y : MethodName} {bytes : ByteArray} {nL' dp mc ms ix kA q : Nat} {As rest : List Value} {Bs : va_W → Prop} (wc wr : va_W) (isC isR : List Nat) (hC1 : isC.map (fun i => ws[i]?) = wc.map some) (hn1 : va_nd isC = true) (hR1 : isR.map (fun i => ws[i]?) = wr.map some) (hn2 : va_nd isR = true) (hdis : ∀ i ∈ isR, i ∉ isC) (hC : CN l D cA y bytes nL' dp mc ms (.ref q :: As) wc Bs) (hm : MF y bytes nL' none kA) (hyn : y.name = "<init>") (hins : Cond.instanceMethod y ∈ gw) (hlk : Cond.methodLink own ix y ∈ gw) (hA : As.length = kA) (hR : (Rq dp mc ms).frames + 1 ≤ R.frames ∧ 8 + (nL' + 11) + (Rq dp mc ms).locals ≤ R.locals ∧ mc ≤ R.cells ∧ ms ≤ R.slots) (hrm : (rest.map fun v => v.category).sum ≤ 8) (hf : cells + mc ≤ R.cells ∧ slots + ms ≤ R.slots) (d : decode cc pc = .ok (.invokespecial ix, 3))
    (kk : ∀ w1 : va_W, Bs w1 → Wn p l e R s m args below meth c D A nL (cells + mc) (slots + ms) Q (pc + 3) lv rest (wr ++ w1)) : Wn p l e R s m args below meth c D A nL cells slots Q pc lv (As.reverse ++ .ref q :: rest) ws := by
  intro H locs ls hP hD hS hl
  have hts := X.2.2.2.2.1
  have hPc : va_P D vwCl wc H := fun k x hx => by
    have h1 : (isC.map (fun i => ws[i]?))[k]? = some (some x) := by rw [hC1, List.getElem?_map, hx]; rfl
    rw [List.getElem?_map] at h1
    cases hi : isC[k]? with
    | none => rw [hi] at h1; cases h1
    | some i =>
      rw [hi] at h1
      exact hP i x (Option.some.inj h1)
  have hDc := hD.sub (ws' := wc) isC hn1 hC1
  have hFc := va_free (wc := wc) hD hS X.2.2.2.2.2.2.2.1 isC hC1
  refine va_callv (va_runI (As := As) (rest := rest) ⟨X.1, X.2.1, X.2.2.1, X.2.2.2.1, hts⟩ (hC H.size) ⟨callB_of kA hts (gw_good (fun _ h => h) hm.1) rfl rfl rfl (hts _ hm.2.1) (hts _ hlk) hm.2.2 ⟨hR.1, hR.2.1⟩, hyn, hts _ hins⟩ ⟨Pn.blind, fun U hU hW => ⟨rfl, by rw [hU], by rw [hU]; exact hPc, va_K.moved hW.alike X.2.2.2.2.2.1, X.2.2.2.2.2.2.1.moved hW.alike, hDc.weaken (fun _ _ _ _ => trivial)⟩⟩ rfl hA hl.1 rfl (lv_room hrm) d hf) hS (fun q _ h => hFc q h) hFc (fun w1 t H1 locs1 ht hvm hw hB hz1 hk1 hS1 => ?_)
  obtain ⟨hP1, hD1⟩ := hB
  rw [ht] at hP1
  obtain ⟨hP2, hD2⟩ := va_join (wr := wr) (w1 := w1) hP hD isC isR hC1 hR1 hn2 hdis hk1 hFc hP1 hD1
  exact kk w1 hw H1 locs1 ls hP2 hD2 hS1 hl
end WN
