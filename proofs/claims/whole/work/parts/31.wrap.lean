section VZCATCH
variable {p : Program} {l : Launch} {e : Env} {R : Room} {s : State} {m : MethodId} {args : Array Value} {below : List Frame} {meth : Method} {c : Code} {D : va_G} {tys : List (ClassId × FieldType)} {A : Nat → Prop} {cc : ByteArray} {nL : Nat} {own : String} {rh : Nat → Nat} {rc : Nat → (Nat → Int32) → va_E} {n : Nat} {cells slots : Nat} {Q : State → Prop} {pc : Nat} {lv lv' : List (Nat × Value)} {st : List Value} {σ : St}
/-- caught by the row x of the method's table -/
theorem v_catch (X : Cx p s m args meth c D tys A cc nL own) {name E : String} (pre : List ExceptionTableEntry) (x : ExceptionTableEntry) (suf : List ExceptionTableEntry) (hsplit : c.exceptionTable.toList = pre ++ x :: suf)
    (hpass : ∀ z ∈ pre, covers z pc = false ∨ (z.catchType ≠ 0 ∧ ∃ nm : String, Cond.classLink own z.catchType nm ∈ gw ∧ va_Nc E nm s)) (hx : covers x pc = true) (h0 : x.catchType ≠ 0) (hlink : Cond.classLink own x.catchType name ∈ gw) (hcast : Cond.castable E name ∈ nw)
    (kk : ∀ q : Nat, Vz p l e R s m args below meth c D A nL rh rc n cells slots Q x.handlerPc lv [.ref q] σ) : Tz p l e R s m args below meth c D A nL rh rc n cells slots Q pc lv st σ E := by
  intro H locs ls q ce hP hD hS hl hce hcv hcl T hT Xs
  have hpl : e.platform.magicAccessors = ({} : Platform).magicAccessors := by rw [Xs.admits.platform]
  have hcs : (Cond.castable E name).before args s = true := va_Nw.use rfl (X.2.2.2.2.2.2.1.1 _ hcast)
  obtain ⟨c3, c4, hc3, hc4, hasg⟩ := Cond.castable_spec hcs
  cases Option.some.inj (hc3.symm.trans hcl)
  obtain ⟨c5, hc5, hcl5⟩ := Cond.classLink_spec X.2.2.2.1 (X.2.2.2.2.1 _ hlink) e.platform hpl
  cases Option.some.inj (hc4.symm.trans hc5)
  obtain ⟨k9, h9, -⟩ := Vm.findClass_spec hcl
  have hobj : ∀ k, ce.vm ≠ .statics k := by
    intro k h
    rw [hcv] at h
    cases h
  obtain ⟨vm', hW', hq⟩ := rows_to (e := e) (s := s) (f := F0 m pc ls st) (a := q) (cell := ce) hobj h9 x suf hx h0 hcl5 hasg pre ((T.setTop (F0 m pc ls st)).pushFrame (.throwing q)) Xs.warmed (by show T.heap[q]? = some ce; rw [hT]; exact hce) (fun z hz => by
      rcases hpass z hz with h | ⟨g0, nm, g1, g2⟩
      · exact Or.inl h
      · obtain ⟨c6, hc6, hcl6⟩ := Cond.classLink_spec X.2.2.2.1 (X.2.2.2.2.1 _ g1) e.platform hpl
        obtain ⟨a8, b8, q1, q2, q3⟩ := g2
        cases Option.some.inj (q1.symm.trans hcl)
        cases Option.some.inj (q2.symm.trans hc6)
        exact Or.inr ⟨g0, _, hcl6, q3⟩)
  obtain ⟨t, a1, b1⟩ := kk q H locs ls hP hD hS hl (T.setVm vm') hT (Xs.noted hW')
  refine ⟨t, caught_step (g := F0 m pc ls st) Xs.here (pc := x.handlerPc) (vm' := vm') (fun Q9 E9 d9 acts9 => ?_) a1, b1⟩
  rw [W.findHandler_eq (meth := meth) (code := c) Xs.method' Xs.code, hsplit]
  exact hq Q9 E9 d9 acts9
end VZCATCH
def CWI (l : Launch) (D : va_G) (tys : List (ClassId × FieldType)) (rh : Nat → Nat) (rc : Nat → (Nat → Int32) → va_E) (n : Nat) (y : MethodName) (cc : ByteArray) (nL : Nat) (hh : List (Nat × Nat × Nat × Nat)) (d mc ms : Nat) (As : List Value) (σ : St) (r : Int32) (σ' : St) : Prop :=
  ∀ sz : Nat, MetFree l y (headSpec (Cond.codeWith y cc nL (some .int) hh :: gw) (Rq d mc ms)) (va_Pc As (Pz D tys rh rc n σ sz)) (fun _ _ _ _ _ => True) (XQ (va_A (wd rh rc n σ) sz) mc ms (Bz D rh rc n (va_A (wd rh rc n σ) sz)) (fun x => some (.int x)) (0, r, σ'))
set_option maxHeartbeats 1000000 in
theorem CWI.of {l : Launch} {D : va_G} {tys : List (ClassId × FieldType)} {rh : Nat → Nat} {rc : Nat → (Nat → Int32) → va_E} {n : Nat} {y : MethodName} {cc : ByteArray} {nL dp mc ms : Nat} {hh : List (Nat × Nat × Nat × Nat)} {As : List Value} {σ σ' : St} {r : Int32} (hy : plainName y.cls = true) (hL : (lg_sl As).length ≤ nL)
    (body : ∀ (p : Program) (e : Env) (s : State) (m : MethodId) (args : Array Value) (below : List Frame) (meth : Method) (c : Code) (A : Nat → Prop) (Q : State → Prop), Cx p s m args meth c D tys A cc nL y.cls → c.exceptionTable.toList = tableOf hh →
      (∀ (pc : Nat) (lv : List (Nat × Value)) (cells slots : Nat) (x : Int32) (s' : St), r = x → σ' = s' → cells ≤ mc → slots ≤ ms → decode cc pc = .ok (.ireturn, 1) → Vz p l e (Rq dp mc ms) s m args below meth c D A nL rh rc n cells slots Q pc lv [.int x] s') → Vz p l e (Rq dp mc ms) s m args below meth c D A nL rh rc n 0 0 Q 0 (lv_args 0 As) [] σ) : CWI l D tys rh rc n y cc nL hh dp mc ms As σ r σ' := by
  intro sz
  refine MetFree.of_bodyS (code := cc) (maxLocals := nL) (ret := some .int) hy ?_ ?_
  · intro args s m h hn
    obtain ⟨m9, meth, c, hn9, h1, h2, h3, h4, -, h6, h7, -⟩ := Cond.codeWith_spec (atoms_spec (ws := Cond.codeWith y cc nL (some .int) hh :: gw) h _ List.mem_cons_self)
    cases Option.some.inj (hn9.symm.trans hn)
    exact ⟨meth, c, h1, h2, h3, h4, h6, h7⟩
  · intro p e s m args below meth c s₁ B hml hv _
    obtain ⟨rfl, hsz, hP, hK, hN, hZ, hD0⟩ := hv
    subst hsz
    have hh0 : s₁.heap = s.heap := by rw [B.state]; rfl
    have htb : c.exceptionTable.toList = tableOf hh := by
      obtain ⟨m9, meth9, c9, hn9, h1, h2, -, -, h6, -⟩ := Cond.codeWith_spec (atoms_spec (ws := Cond.codeWith y cc nL (some .int) hh :: gw) B.pre _ List.mem_cons_self)
      cases Option.some.inj (hn9.symm.trans B.named)
      cases Option.some.inj (h1.symm.trans B.method)
      cases Option.some.inj (h2.symm.trans (Stand.of_body B).code)
      rw [← h6, table_eq]
    have hD := hD0.self (sz := s.heap.size)
    have X : Cx p s m As.toArray meth c D tys (va_A (wd rh rc n σ) s.heap.size) cc nL y.cls := ⟨B.exec, B.bytes, hml, findClass_of_methodNamed B.named, fun w h => atoms_spec (ws := Cond.codeWith y cc nL (some .int) hh :: gw) B.pre w (List.mem_cons_of_mem _ h), hK, hN, fun q h => Or.inr h, B.notSynchronized, hZ, wd_ns hP⟩
    have hl := lv_entry As (n := nL) hL
    obtain ⟨t, a1, o, b1, b2, b3⟩ := body p e s m As.toArray below meth c _ (fun t => ∃ o, t.status = .running ∧ Ended t below o ∧ XQ (va_A (wd rh rc n σ) s.heap.size) mc ms (Bz D rh rc n (va_A (wd rh rc n σ) s.heap.size)) (fun x => some (.int x)) (0, r, σ') As.toArray s o t) X htb (by
        intro pc lv k1 k2 x s' hF hF2 hc1 hc2 hd H locs ls hP1 hD1 hS1 hl1 T hT Xs
        have k9 := W.iret (v := x) (p := p) (l := l) (e := e) (m := m) (args := As.toArray) (R := Rq dp mc ms) (below := below) (cells := mc) (slots := ms) (Qc := fun _ st o t => o = .returned (some (.int x)) ∧ Bz D rh rc n (va_A (wd rh rc n σ) s.heap.size) s' t ∧ va_F (va_A (wd rh rc n σ) s.heap.size) st t) (free := va_A (wd rh rc n σ) s.heap.size) (ls := ls) X.1 X.2.1 B.returns (fun t ht hW => ⟨rfl, ⟨by rw [ht]; exact hP1, hD1⟩, hS1.F ht⟩) hS1.2.2 hd B.notSynchronized
        obtain ⟨t, a1, o, b1, b2, ⟨b3, b4, b5⟩, b6⟩ := W.widen hc1 hc2 k9 T hT Xs
        subst hF; subst hF2
        exact ⟨t, a1, o, b1, b2, Or.inl ⟨rfl, b3, b6, b4, b5⟩⟩) s.heap [] _ hP hD va_S.rf hl s₁ hh0 (Stand.of_body B)
    rw [← lg_entry_eq] at a1
    exact ⟨t, o, a1, b1, b2, b3⟩
