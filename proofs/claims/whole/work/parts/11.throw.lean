/-! THROWING: a method's answer is (code, number, state); code 0: it returns; else it throws exN code -/
def exN (k : Int32) : String := if k = 1 then "java/lang/IllegalArgumentException" else if k = 2 then "java/lang/IllegalStateException" else "java/lang/UnsupportedOperationException"
/-- q, of the class E, is thrown over the frame -/
def Tz (p : Program) (l : Launch) (e : Env) (R : Room) (s : State) (m : MethodId) (args : Array Value) (below : List Frame) (meth : Method) (c : Code) (D : va_G) (A : Nat → Prop) (nL : Nat) (rh : Nat → Nat) (rc : Nat → (Nat → Int32) → va_E) (n : Nat) (cells slots : Nat) (Q : State → Prop) (pc : Nat) (lv : List (Nat × Value)) (st : List Value) (σ : St) (E : String) : Prop :=
  ∀ (H : Heap) (locs : List Loc) (ls : Array Slot) (q : Addr) (ce : Cell), va_P D vwCl (wd rh rc n σ) H → va_D A (wd rh rc n σ) → va_S A s.heap H locs → lv_has ls nL lv → H[q]? = some ce → ce.vm = .none → s.vm.findClass E = some ce.cls →
    ∀ T : State, T.heap = H → Stand p l e R s m args below meth c T locs cells slots → ∃ t, Steps p.tables e below ((T.setTop (F0 m pc ls st)).pushFrame (.throwing q)) t ∧ Q t
def XF (Aw : Nat → Prop) (E : String) (mc ms : Nat) (B : State → Prop) (st : State) (o : Outcome) (t : State) : Prop :=
  ∃ (q : Addr) (ce : Cell) (L : List Loc), o = .threw q ∧ t.heap[q]? = some ce ∧ ce.vm = .none ∧ st.vm.findClass E = some ce.cls ∧ st.WarmedH t.vm ∧ st.sameButNew ({ t with vm := st.vm } : State) L mc ms ∧ (∀ z ∈ L, Aw z.base) ∧ B t ∧ va_F Aw st t
def XQ (Aw : Nat → Prop) (mc ms : Nat) (B : St → State → Prop) (v : Int32 → Option Value) (F : Int32 × Int32 × St) : Array Value → State → Outcome → State → Prop := fun _ st o t =>
  (F.1 = 0 ∧ o = .returned (v F.2.1) ∧ (∃ L, FrameEnd st o t L mc ms ∧ ∀ q ∈ L, Aw q.base) ∧ B F.2.2 t ∧ va_F Aw st t) ∨ (¬ F.1 = 0 ∧ XF Aw (exN F.1) mc ms (B F.2.2) st o t)
def CFI (l : Launch) (D : va_G) (tys : List (ClassId × FieldType)) (rh : Nat → Nat) (rc : Nat → (Nat → Int32) → va_E) (n : Nat) (y : MethodName) (cc : ByteArray) (nL : Nat) (d mc ms : Nat) (As : List Value) (σ : St) (F : Int32 × Int32 × St) : Prop :=
  ∀ sz : Nat, MetFree l y (headSpec (Cond.code y cc nL (some .int) :: gw) (Rq d mc ms)) (va_Pc As (Pz D tys rh rc n σ sz)) (fun _ _ _ _ _ => True) (XQ (va_A (wd rh rc n σ) sz) mc ms (Bz D rh rc n (va_A (wd rh rc n σ) sz)) (fun x => some (.int x)) F)
def CFV (l : Launch) (D : va_G) (tys : List (ClassId × FieldType)) (rh : Nat → Nat) (rc : Nat → (Nat → Int32) → va_E) (n : Nat) (y : MethodName) (cc : ByteArray) (nL : Nat) (d mc ms : Nat) (As : List Value) (σ : St) (F : Int32 × Int32 × St) : Prop :=
  ∀ sz : Nat, MetFree l y (headSpec (Cond.code y cc nL none :: gw) (Rq d mc ms)) (va_Pc As (Pz D tys rh rc n σ sz)) (fun _ _ _ _ _ => True) (XQ (va_A (wd rh rc n σ) sz) mc ms (Bz D rh rc n (va_A (wd rh rc n σ) sz)) (fun _ => none) F)
/-- a call, by a contract that speaks of every outcome -/
theorem xcall {p : Program} {l : Launch} {e : Env} {R rm : Room} {s : State} {m : MethodId} {args : Array Value} {below : List Frame} {meth : Method} {c : Code} {U : State} {Ls : List Loc} {c0 s0 : Nat} {y : MethodName} {ws : List Cond} {Pc : Array Value → State → Prop} {Q : Array Value → State → Outcome → State → Prop} {maxL : Nat} {a : Array Value} {g : JFrame} {mk : MethodId} {ig : Instr} {len : Nat}
    (X : Stand p l e R s m args below meth c U Ls c0 s0) (hM : MetFree l y (headSpec ws rm) Pc (fun _ _ _ _ _ => True) Q) (h1 : ∀ w ∈ ws, w.before a U = true)
    (hlY : ∀ methY cY, U.vm.method? mk = some methY → methY.code = some cY → cY.maxLocals = maxL) (hcY : ∃ methY cY, U.vm.method? mk = some methY ∧ methY.code = some cY)
    (h3 : (Cond.initialized y.cls).before a U = true) (h4 : c0 + rm.cells ≤ R.cells) (h5 : s0 + rm.slots ≤ R.slots) (hfr : rm.frames + 1 ≤ R.frames) (hlo : 8 + (maxL + 11) + rm.locals ≤ R.locals)
    (hPc : Pc a (U.calling g mk a)) (hg : g.method = m) (hsize : g.locals.size = c.maxLocals) (hdg : decode c.code g.pc = .ok (ig, len)) (hW : 2 * g.monitorRoom + (g.stack.map fun v => v.category).sum ≤ 8) (hn : U.methodNamed? y = some mk) :
    ∃ (o : Outcome) (s₂ : State), Q a (U.calling g mk a) o s₂ ∧
      (∀ v L k n, o = .returned v → FrameEnd (U.calling g mk a) o s₂ L k n → ∃ T' : State, Stand p l e R s m args below meth c T' (Ls ++ L) (c0 + k) (s0 + n) ∧ T'.heap = s₂.heap ∧ T'.vm = s₂.vm ∧
        Steps p.tables e below (doInvoke e (U.setTop g) [] mk a).1 (T'.setTop { g with pc := g.pc + len, stack := v.toList ++ g.stack })) ∧
      (∀ q L k n, o = .threw q → (U.calling g mk a).WarmedH s₂.vm → (U.calling g mk a).sameButNew ({ s₂ with vm := (U.calling g mk a).vm } : State) L k n → ∃ T' : State, Stand p l e R s m args below meth c T' (Ls ++ L) (c0 + k) (s0 + n) ∧ T'.heap = s₂.heap ∧ T'.vm = s₂.vm ∧
        Steps p.tables e below (doInvoke e (U.setTop g) [] mk a).1 ((T'.setTop g).pushFrame (.throwing q))) := by
  obtain ⟨methY, cY, hmY, hcY⟩ := hcY
  have hl9 := hlY methY cY hmY hcY
  obtain ⟨kY, hkY, -⟩ := className_of_methodNamed hn
  have hinitY : kY.init = .initialized := Cond.initialized_spec (findClass_of_methodNamed hn) hkY h3
  have h : At U g.method c below := by rw [hg]; exact X.here
  have hpre : (headSpec ws rm).pre.before a U = true := atoms_intro h1
  have happ : (headSpec ws rm).appliesLoose y e.platform (U.calling g mk a) = true :=
    Spec.appliesLoose_calling (g := g) h hdg hn hkY hinitY
      (X.room_calling (g := g) (R' := (headSpec ws rm).room) hsize hmY hcY hfr (by rw [hl9]; show 2 * g.monitorRoom + (g.stack.map fun v => v.category).sum + (maxL + 11) + rm.locals ≤ R.locals; omega) h4 h5) hpre
  obtain ⟨mid, hmid⟩ := h.above
  have hfr2 : (U.setTop g).frames = (.java g :: mid) ++ below := by rw [State.frames_setTop' g h.top, hmid]; rfl
  obtain ⟨o, s₂, hsteps, -, hend, hq⟩ := Steps.callFree hM p X.admits X.cas X.clock (acts := []) hfr2 happ hPc trivial
  rw [State.frames_setTop' g h.top] at hend
  obtain ⟨g₀, hg0⟩ := Option.isSome_iff_exists.mp h.top
  obtain ⟨r, hr⟩ := State.topJava?_eq_some.mp hg0
  have hr' : (({ U with heap := s₂.heap, slotsUsed := s₂.slotsUsed } : State).setVm s₂.vm).frames = .java g₀ :: r := hr
  have stand : ∀ (L : List Loc) (k n : Nat), U.WarmedH s₂.vm → (U.calling g mk a).sameButNew ({ s₂ with vm := (U.calling g mk a).vm } : State) L k n → Stand p l e R s m args below meth c (({ U with heap := s₂.heap, slotsUsed := s₂.slotsUsed } : State).setVm s₂.vm) (Ls ++ L) (c0 + k) (s0 + n) := by
    intro L k n hW' hsm
    obtain ⟨-, q2, q3, q4, q5, q6⟩ := hsm
    have hsame : U.sameButNew ({ U with heap := s₂.heap, slotsUsed := s₂.slotsUsed } : State) L k n := by
      refine ⟨?_, q2, q3, q4, q5, q6⟩
      obtain ⟨t, ht, -⟩ := State.frames_cons hr
      show ({ U with heap := s₂.heap, slotsUsed := s₂.slotsUsed } : State) = { U.setFrames U.frames with heap := s₂.heap, slotsUsed := s₂.slotsUsed }
      rw [State.setFrames_self ht]
    exact ⟨X.admits, X.cas, X.clock, X.frames, X.room, X.hears, X.method, X.code, (X.here.setHeapUsed s₂.heap s₂.slotsUsed).setVm hW'.alike, X.tail, State.WarmedH.trans X.warmed hW', X.limits, X.bytes, X.same.trans (hsame.setVm s.vm)⟩
  have same3 : ∀ (L : List Loc) (k n : Nat), (U.calling g mk a).sameButNew ({ s₂ with vm := (U.calling g mk a).vm } : State) L k n → s₂ = ({ (U.calling g mk a).setFrames s₂.frames with heap := s₂.heap, slotsUsed := s₂.slotsUsed } : State).setVm s₂.vm := by
    intro L k n hsm
    have e2 := hsm.1
    have : s₂ = ({ s₂ with vm := (U.calling g mk a).vm } : State).setVm s₂.vm := rfl
    rw [e2] at this
    exact this
  refine ⟨o, s₂, hq, ?_, ?_⟩
  · intro v L k n ho hfe
    subst ho
    obtain ⟨-, hW₂, hsm⟩ := hfe
    have e3 := same3 L k n hsm
    obtain ⟨c₂, i₂, len₂, hc₂, hd₂, hf₂⟩ := hend
    have hW' : U.WarmedH s₂.vm := hW₂
    have hcc : c₂ = c := by
      have h1 : s₂.code? g.method = U.code? g.method := by
        rw [State.code?_eq, State.code?_eq, hW'.alike.method?]
      exact Option.some.inj (hc₂.symm.trans (h1.trans h.code))
    subst hcc
    have hlen : len₂ = len := by rw [hdg] at hd₂; cases hd₂; rfl
    subst hlen
    have hs₂ : s₂ = (({ U with heap := s₂.heap, slotsUsed := s₂.slotsUsed } : State).setVm s₂.vm).setTop { g with pc := g.pc + len₂, stack := v.toList ++ g.stack } := by
      refine e3.trans ?_
      rw [hf₂, State.calling_eq h.top, State.setFrames_setFrames, State.setTop_of_frames _ hr', hr]
      rfl
    refine ⟨(({ U with heap := s₂.heap, slotsUsed := s₂.slotsUsed } : State).setVm s₂.vm), stand L k n hW' hsm, rfl, rfl, ?_⟩
    rw [← hs₂]
    exact hsteps
  · intro q L k n ho hW₂ hsm
    subst ho
    have e3 := same3 L k n hsm
    have hW' : U.WarmedH s₂.vm := hW₂
    have hf₂ : s₂.frames = .throwing q :: .java g :: U.frames.tail := hend
    have hs₂ : s₂ = ((({ U with heap := s₂.heap, slotsUsed := s₂.slotsUsed } : State).setVm s₂.vm).setTop g).pushFrame (.throwing q) := by
      refine e3.trans ?_
      rw [hf₂, State.calling_eq h.top, State.setFrames_setFrames, State.pushFrame, State.frames_setTop _ hr', State.setTop_of_frames _ hr', State.setFrames_setFrames, hr]
      rfl
    refine ⟨(({ U with heap := s₂.heap, slotsUsed := s₂.slotsUsed } : State).setVm s₂.vm), stand L k n hW' hsm, rfl, rfl, ?_⟩
    rw [← hs₂]
    exact hsteps
/-- the frame as it stands, taken as the start of a method in the heap as it is -/
theorem st_anew {p : Program} {l : Launch} {e : Env} {R R' : Room} {s : State} {m : MethodId} {args : Array Value} {below : List Frame} {meth : Method} {c : Code} {T : State} {locs : List Loc} {cells slots : Nat} (X : Stand p l e R s m args below meth c T locs cells slots) (hf : R'.frames ≤ R.frames) (hl : R'.locals ≤ R.locals) (hc : cells + R'.cells ≤ R.cells) (hs : slots + R'.slots ≤ R.slots) :
    Stand p l e R' ((T.setVm s.vm).setFrames (.invoking m args :: below)) m args below meth c T [] 0 0 := by
  have top : (T.setVm s.vm).topJava?.isSome := X.here.top
  have fr : ((T.setVm s.vm).setFrames (.invoking m args :: below)).frames = .invoking m args :: below := State.frames_setFrames _ (State.cur_lt_of_top top)
  obtain ⟨g₀, hg0⟩ := Option.isSome_iff_exists.mp top
  obtain ⟨r, hr⟩ := State.topJava?_eq_some.mp hg0
  have lim : e.platform.stackLimits (T.setVm s.vm).me = e.platform.stackLimits s.me := X.limits
  have byt : (T.setVm s.vm).me.stackBytes = s.me.stackBytes := X.bytes
  have none : T.heap.toList.drop T.heap.size = [] := List.drop_eq_nil_of_le (Nat.le_of_eq Array.length_toList)
  refine ⟨X.admits, X.cas, X.clock, fr, ?_, X.hears, X.method, X.code, X.here, X.tail, X.warmed, by rw [State.stackLimits_setFrames]; rfl, by rw [State.stackBytes_setFrames]; rfl, ?_⟩
  · have h := X.room
    have use : ((T.setVm s.vm).setFrames (.invoking m args :: below)).localsInUse = s.localsInUse := by
      rw [State.localsInUse_invoking fr (meth := meth) (c := c) X.method X.code, State.localsInUse_invoking X.frames X.method X.code]
    simp only [State.hasRoom, Bool.and_eq_true, decide_eq_true_eq] at h ⊢
    obtain ⟨⟨⟨⟨h1, h2, h3, h4, h5, h6⟩, h7⟩, h8⟩, h9⟩ := h
    rw [X.frames, List.length_cons] at h2 h3
    have q1 := X.heapSize
    have q2 := X.used
    simp only [fr, use, List.length_cons, State.stackLimits_setFrames, State.stackBytes_setFrames, lim, byt]
    refine ⟨⟨⟨⟨by omega, by omega, by omega, by omega, by omega, h6⟩, ?_⟩, ?_⟩, X.book⟩
    · show T.heap.size + R'.cells ≤ e.platform.maxCells
      omega
    · show T.slotsUsed + R'.slots ≤ e.platform.maxSlots
      omega
  · refine ⟨?_, Nat.le_refl _, Nat.le_refl _, ?_, ?_, fun a c9 h9 => ⟨c9, h9, rfl, rfl, fun _ _ => rfl⟩⟩
    · obtain ⟨t, ht, -⟩ := State.frames_cons hr
      show T.setVm s.vm = { ((T.setVm s.vm).setFrames (.invoking m args :: below)).setFrames (T.setVm s.vm).frames with heap := T.heap, slotsUsed := T.slotsUsed }
      rw [State.setFrames_setFrames, State.setFrames_self ht]
      rfl
    · show T.slotsUsed = T.slotsUsed + ((T.heap.toList.drop T.heap.size).map (·.slots.size)).sum
      rw [none]; rfl
    · show ((T.heap.toList.drop T.heap.size).map (·.slots.size)).sum ≤ 0
      rw [none]; exact Nat.le_refl _
/-- what a 'throw new E()' needs of the words -/
def isHW (w : Cond) : Bool := decide (w = .isRef (.static Bundle.tN "UNASSIGNED_STACK" Bundle.steD)) || decide (w = .isRef (.static Bundle.tN "SUPPRESSED_SENTINEL" Bundle.listD)) || decide (w = .laysStatic Bundle.tN "UNASSIGNED_STACK" Bundle.steD) || decide (w = .laysStatic Bundle.tN "SUPPRESSED_SENTINEL" Bundle.listD)
def TW (own : String) (ik ic : Nat) (cls : String) (names : List String) : Prop := Cond.classLink own ik cls ∈ gw ∧ Cond.initialized cls ∈ gw ∧ Bundle.fit cls = true ∧ (∀ n ∈ names, Bundle.fit n = true) ∧ ∀ w ∈ Bundle.ownAtoms0 own ic cls names, w ∈ gw ∨ w ∈ nw ∨ isHW w = true
theorem TW.at {own : String} {ik ic : Nat} {cls : String} {names : List String} {args : Array Value} {s U : State} (h : TW own ik ic cls names) (hg : ∀ w ∈ gw, w.before args s = true) (hn : Nz U) (hz : ∃ A, Sz A U U.heap) (hvm : s.vm = U.vm) : ∀ w ∈ Bundle.ownAtoms0 own ic cls names, w.before args U = true := by
  intro w hw
  obtain ⟨A, hz1, hz2⟩ := hz
  rcases h.2.2.2.2 w hw with h1 | h1 | h1
  · have hW : s.WarmedH U.vm := by rw [← hvm]; exact State.WarmedH.refl s
    exact word_at hW (good_of_word (List.mem_filter.mp h1).2) (hg w h1)
  · have h2 := hn.1 w h1
    have h3 : isNest w = true := (List.mem_filter.mp h1).2
    cases w <;> first | exact va_Nw.use rfl h2 | (simp [isNest] at h3; done)
  · simp only [isHW, Bool.or_eq_true, decide_eq_true_eq] at h1
    rcases h1 with ((rfl | rfl) | rfl) | rfl
    · exact hz1.ref
    · exact hz2.ref
    · exact hz1.lays
    · exact hz2.lays
theorem old_same {s U : State} {k n : Nat} (h : s.sameButNew ({ U with vm := s.vm } : State) [] k n) : s.heap.size ≤ U.heap.size ∧ ∀ q : Nat, q < s.heap.size → U.heap[q]? = s.heap[q]? := by
  obtain ⟨-, h2, -, -, -, h6⟩ := h
  refine ⟨h2, fun q hq => ?_⟩
  obtain ⟨c9, e1, e2, e3, e4⟩ := h6 q _ (Array.getElem?_eq_getElem hq)
  have hs : c9.slots = (s.heap[q]).slots := Array.ext_getElem? fun i => e4 i (by simp)
  have h9 : c9 = s.heap[q] := by
    rw [hs] at e2
    exact e2
  have e5 : U.heap[q]? = some c9 := e1
  rw [e5, h9, Array.getElem?_eq_getElem hq]
set_option maxHeartbeats 1000000 in
theorem CFI.of {l : Launch} {D : va_G} {tys : List (ClassId × FieldType)} {rh : Nat → Nat} {rc : Nat → (Nat → Int32) → va_E} {n : Nat} {y : MethodName} {cc : ByteArray} {nL dp mc ms : Nat} {As : List Value} {σ : St} {F : Int32 × Int32 × St} (hy : plainName y.cls = true) (hL : (lg_sl As).length ≤ nL) (hlt : l.stackTraces = false)
    (body : ∀ (p : Program) (e : Env) (s : State) (m : MethodId) (args : Array Value) (below : List Frame) (meth : Method) (c : Code) (A : Nat → Prop) (Q : State → Prop), Cx p s m args meth c D tys A cc nL y.cls →
      (∀ (pc : Nat) (lv : List (Nat × Value)) (cells slots : Nat) (x : Int32) (s' : St), F = (0, x, s') → cells ≤ mc → slots ≤ ms → decode cc pc = .ok (.ireturn, 1) → Vz p l e (Rq dp mc ms) s m args below meth c D A nL rh rc n cells slots Q pc lv [.int x] s') → (∀ (pc : Nat) (lv : List (Nat × Value)) (st : List Value) (cells slots : Nat) (k : Int32) (s' : St), F = (k, 0, s') → ¬ k = 0 → cells ≤ mc → slots ≤ ms → Tz p l e (Rq dp mc ms) s m args below meth c D A nL rh rc n cells slots Q pc lv st s' (exN k)) → (∀ (pc : Nat) (lv : List (Nat × Value)) (st : List Value) (cells slots : Nat) (k : Int32) (s' : St) {ik ic : Nat} {names : List String}, F = (k, 0, s') → ¬ k = 0 → TW y.cls ik ic (exN k) names → decode cc pc = .ok (.new ik, 3) → decode cc (pc + 3) = .ok (.dup, 1) → decode cc (pc + 4) = .ok (.invokespecial ic, 3) → decode cc (pc + 7) = .ok (.athrow, 1) → cells + 1 ≤ mc → slots + 6 ≤ ms → names.length + 3 < dp → (st.map fun v => v.category).sum + (13 * (names.length + 1) + 42) ≤ 30 * dp → Vz p l e (Rq dp mc ms) s m args below meth c D A nL rh rc n cells slots Q pc lv st s') → Vz p l e (Rq dp mc ms) s m args below meth c D A nL rh rc n 0 0 Q 0 (lv_args 0 As) [] σ) : CFI l D tys rh rc n y cc nL dp mc ms As σ F := by
  intro sz
  refine MetFree.of_bodyS (code := cc) (maxLocals := nL) (ret := (some .int)) hy ?_ ?_
  · intro args s m h hn
    obtain ⟨meth, c, h1, h2, h3, h4, h5, h6, -, -⟩ := Cond.code_spec hn (atoms_spec (ws := Cond.code y cc nL (some .int) :: gw) h _ List.mem_cons_self)
    exact ⟨meth, c, h1, h2, h3, h4, h5, h6⟩
  · intro p e s m args below meth c s₁ B hml hv _
    obtain ⟨rfl, hsz, hP, hK, hN, hZ, hD0⟩ := hv
    subst hsz
    have hh0 : s₁.heap = s.heap := by rw [B.state]; rfl
    have htb : ∀ x ∈ c.exceptionTable.toList, False := by
      obtain ⟨meth9, c9, h1, h2, -, -, -, -, h7, -⟩ := Cond.code_spec B.named (atoms_spec (ws := Cond.code y cc nL (some .int) :: gw) B.pre _ List.mem_cons_self)
      cases Option.some.inj (h1.symm.trans B.method)
      cases Option.some.inj (h2.symm.trans (Stand.of_body B).code)
      intro x hx
      rw [Array.isEmpty_iff.mp h7] at hx
      cases hx
    have hD := hD0.self (sz := s.heap.size)
    have X : Cx p s m As.toArray meth c D tys (va_A (wd rh rc n σ) s.heap.size) cc nL y.cls := ⟨B.exec, B.bytes, hml, findClass_of_methodNamed B.named, fun w h => atoms_spec (ws := Cond.code y cc nL (some .int) :: gw) B.pre w (List.mem_cons_of_mem _ h), hK, hN, fun q h => Or.inr h, B.notSynchronized, hZ, wd_ns hP⟩
    have hl := lv_entry As (n := nL) hL
    obtain ⟨t, a1, o, b1, b2, b3⟩ := body p e s m As.toArray below meth c _ (fun t => ∃ o, t.status = .running ∧ Ended t below o ∧ XQ (va_A (wd rh rc n σ) s.heap.size) mc ms (Bz D rh rc n (va_A (wd rh rc n σ) s.heap.size)) (fun x => some (.int x)) F As.toArray s o t) X (by
        intro pc lv k1 k2 x s' hF hc1 hc2 hd H locs ls hP1 hD1 hS1 hl1 T hT Xs
        have k9 := W.iret (v := x) (p := p) (l := l) (e := e) (m := m) (args := As.toArray) (R := Rq dp mc ms) (below := below) (cells := mc) (slots := ms) (Qc := fun _ st o t => o = .returned (some (.int x)) ∧ Bz D rh rc n (va_A (wd rh rc n σ) s.heap.size) s' t ∧ va_F (va_A (wd rh rc n σ) s.heap.size) st t) (free := va_A (wd rh rc n σ) s.heap.size) (ls := ls) X.1 X.2.1 B.returns (fun t ht hW => ⟨rfl, ⟨by rw [ht]; exact hP1, hD1⟩, hS1.F ht⟩) hS1.2.2 hd B.notSynchronized
        obtain ⟨t, a1, o, b1, b2, ⟨b3, b4, b5⟩, b6⟩ := W.widen hc1 hc2 k9 T hT Xs
        subst hF
        exact ⟨t, a1, o, b1, b2, Or.inl ⟨rfl, b3, b6, b4, b5⟩⟩) (by
        intro pc lv st k1 k2 k s' hF hk hc1 hc2 H locs ls q ce hP1 hD1 hS1 hl1 hce hcv hcl T hT Xs
        obtain ⟨st1, hrun, hendd, hW, hsm⟩ := Xs.leaveThrown q (g := F0 m pc ls st) rfl rfl rfl (fun x hx => absurd (htb x hx) id) B.notSynchronized
        subst hF
        exact ⟨_, st1, .threw q, hrun, hendd, Or.inr ⟨hk, q, ce, locs, rfl, (show T.heap[q]? = some ce by rw [hT]; exact hce), hcv, hcl, hW, hsm.mono hc1 hc2, hS1.2.2, ⟨(show va_P D vwCl _ T.heap by rw [hT]; exact hP1), hD1⟩, hS1.F (show T.heap = H from hT)⟩⟩) (by
        intro pc lv st k1 k2 k s' ik ic names hF hk hw d0 d3 d4 d7 hc1 hc2 hfr hlo H locs ls hP1 hD1 hS1 hl1 T hT Xs
        have htr : e.platform.stackTraces = false := (show e.platform.stackTraces = l.stackTraces by rw [Xs.admits.platform]).trans hlt
        have Y := st_anew Xs (R' := { frames := dp, locals := 30 * dp, cells := 1, slots := 6 }) (Nat.le_refl _) (Nat.le_refl _) hc1 hc2
        obtain ⟨s0, hA⟩ : ∃ z, z = (T.setVm s.vm).setFrames (.invoking m As.toArray :: below) := ⟨_, rfl⟩
        rw [← hA] at Y
        have hvm : s.vm = s0.vm := by rw [hA]; rfl
        have hhp : s0.heap = H := by rw [hA]; exact hT
        have hW0 : s.WarmedH s0.vm := by rw [← hvm]; exact State.WarmedH.refl s
        have hZ0 : Sz (va_A (wd rh rc n σ) s.heap.size) s0 s0.heap := by
          rw [hhp]
          exact hZ.move hW0.alike hS1.2.1 (fun _ h => h)
        have hg0 : ∀ w ∈ gw, w.before As.toArray s0 = true := fun w h => word_at hW0 (good_of_word (List.mem_filter.mp h).2) (X.2.2.2.2.1 w h)
        have hat := hw.at (args := As.toArray) (U := s0) X.2.2.2.2.1 (Nz.same hvm hN) ⟨_, hZ0⟩ hvm
        have hown0 : s0.vm.findClass y.cls = some m.cls := by rw [← hvm]; exact X.2.2.2.1
        obtain ⟨vm₁, cX, kX, hfX, hkX, -, -, X₁, st1⟩ := Y.newCold X.1 (own := y.cls) (C := exN k) (index := ik) (n := 6) hown0 (hg0 _ hw.1) (hat _ (by simp [Bundle.ownAtoms0])) (hg0 _ hw.2.1)
          (g := F0 m pc ls st) rfl (by rw [X.2.1]; exact d0) (Nat.le_refl _) (Nat.le_refl _)
        generalize hT1 : (T.setVm vm₁).pushCell { cls := cX, slots := kX.instanceTypes.map defaultValue, vm := .none } = T1 at X₁ st1
        have hcat : (Value.ref T.heap.size).category = 1 := rfl
        have hcellA : T1.heap[T.heap.size]? = some (freshCell cX kX) := by rw [← hT1]; exact State.heap_pushCell_size _ _
        have d3' : decode c.code (pc + 3) = .ok (.dup, 1) := by rw [X.2.1]; exact d3
        have hmr : (F0 m pc ls st).monitorRoom = 0 := rfl
        obtain ⟨U, hsteps, hrun, hendd, hW, hsame, ce, hce, hO⟩ := X₁.ctorThrow0 X.1 htr (own := y.cls) (cls := exN k) (names := names) (ic := ic) hown0 hw.2.2.1 hw.2.2.2.1 hat (fun x hx => nomatch hx) hfX hkX hcellA (by rw [hhp, hT]; exact Nat.le_refl _)
          (g := { method := m, pc := pc + 4, locals := ls, stack := .ref T.heap.size :: .ref T.heap.size :: st, locked := none }) rfl (hl1.1.trans hml.symm) rfl rfl (rest := st) rfl
          (by rw [X.2.1]; exact d4) (by rw [X.2.1]; exact d7) (fun x hx => absurd (htb x hx) id) hfr (by simp only [List.map_cons, List.sum_cons, hcat]; omega) B.notSynchronized
        obtain ⟨f1, f2⟩ := old_same hsame
        rw [hhp] at f1 f2
        have hWs : s.WarmedH U.vm := State.WarmedH.trans hW0 hW
        have hcl : s.vm.findClass (exN k) = some ce.cls := by rw [hvm]; exact hO.cls
        have hall : s.sameButNew ({ U with vm := s.vm } : State) locs mc ms := by
          subst hA
          obtain ⟨e1, e2⟩ := hsame
          rw [State.setFrames_setFrames] at e1
          have h2 : (T.setVm s.vm).sameButNew ({ U with vm := s.vm } : State) [] (0 + 1) (0 + 6) := ⟨e1, e2⟩
          have h3 := Xs.same.trans h2
          rw [List.append_nil] at h3
          exact h3.mono hc1 hc2
        have hPU : va_P D vwCl (wd rh rc n s') U.heap := fun i q hq => (hP1 i q hq).kept (f2 q.1 (hP1 i q hq).lt)
        subst hF
        refine ⟨U, ?_, .threw T.heap.size, hrun, hendd, Or.inr ⟨hk, T.heap.size, ce, locs, rfl, hce, hO.vm, hcl, hWs, hall, hS1.2.2, ⟨hPU, hD1⟩, ⟨Nat.le_trans hS1.1 f1, fun q h1 h2 => (f2 q (Nat.lt_of_lt_of_le h1 hS1.1)).trans (hS1.2.1 q h1 h2)⟩⟩⟩
        refine st1 _ ?_
        show Steps p.tables e below (T1.setTop { method := m, pc := pc + 3, locals := ls, stack := .ref T.heap.size :: st, locked := none }) _
        jvm_step X₁.here [X₁.here.top, X.1, d3', Value.category]
        exact hsteps) s.heap [] _ hP hD va_S.rf hl s₁ hh0 (Stand.of_body B)
    rw [← lg_entry_eq] at a1
    exact ⟨t, o, a1, b1, b2, b3⟩
set_option maxHeartbeats 1000000 in
theorem CFV.of {l : Launch} {D : va_G} {tys : List (ClassId × FieldType)} {rh : Nat → Nat} {rc : Nat → (Nat → Int32) → va_E} {n : Nat} {y : MethodName} {cc : ByteArray} {nL dp mc ms : Nat} {As : List Value} {σ : St} {F : Int32 × Int32 × St} (hy : plainName y.cls = true) (hL : (lg_sl As).length ≤ nL) (hlt : l.stackTraces = false)
    (body : ∀ (p : Program) (e : Env) (s : State) (m : MethodId) (args : Array Value) (below : List Frame) (meth : Method) (c : Code) (A : Nat → Prop) (Q : State → Prop), Cx p s m args meth c D tys A cc nL y.cls →
      (∀ (pc : Nat) (lv : List (Nat × Value)) (cells slots : Nat) (s' : St), F = (0, 0, s') → cells ≤ mc → slots ≤ ms → decode cc pc = .ok (.return_, 1) → Vz p l e (Rq dp mc ms) s m args below meth c D A nL rh rc n cells slots Q pc lv [] s') → (∀ (pc : Nat) (lv : List (Nat × Value)) (st : List Value) (cells slots : Nat) (k : Int32) (s' : St), F = (k, 0, s') → ¬ k = 0 → cells ≤ mc → slots ≤ ms → Tz p l e (Rq dp mc ms) s m args below meth c D A nL rh rc n cells slots Q pc lv st s' (exN k)) → (∀ (pc : Nat) (lv : List (Nat × Value)) (st : List Value) (cells slots : Nat) (k : Int32) (s' : St) {ik ic : Nat} {names : List String}, F = (k, 0, s') → ¬ k = 0 → TW y.cls ik ic (exN k) names → decode cc pc = .ok (.new ik, 3) → decode cc (pc + 3) = .ok (.dup, 1) → decode cc (pc + 4) = .ok (.invokespecial ic, 3) → decode cc (pc + 7) = .ok (.athrow, 1) → cells + 1 ≤ mc → slots + 6 ≤ ms → names.length + 3 < dp → (st.map fun v => v.category).sum + (13 * (names.length + 1) + 42) ≤ 30 * dp → Vz p l e (Rq dp mc ms) s m args below meth c D A nL rh rc n cells slots Q pc lv st s') → Vz p l e (Rq dp mc ms) s m args below meth c D A nL rh rc n 0 0 Q 0 (lv_args 0 As) [] σ) : CFV l D tys rh rc n y cc nL dp mc ms As σ F := by
  intro sz
  refine MetFree.of_bodyS (code := cc) (maxLocals := nL) (ret := none) hy ?_ ?_
  · intro args s m h hn
    obtain ⟨meth, c, h1, h2, h3, h4, h5, h6, -, -⟩ := Cond.code_spec hn (atoms_spec (ws := Cond.code y cc nL none :: gw) h _ List.mem_cons_self)
    exact ⟨meth, c, h1, h2, h3, h4, h5, h6⟩
  · intro p e s m args below meth c s₁ B hml hv _
    obtain ⟨rfl, hsz, hP, hK, hN, hZ, hD0⟩ := hv
    subst hsz
    have hh0 : s₁.heap = s.heap := by rw [B.state]; rfl
    have htb : ∀ x ∈ c.exceptionTable.toList, False := by
      obtain ⟨meth9, c9, h1, h2, -, -, -, -, h7, -⟩ := Cond.code_spec B.named (atoms_spec (ws := Cond.code y cc nL none :: gw) B.pre _ List.mem_cons_self)
      cases Option.some.inj (h1.symm.trans B.method)
      cases Option.some.inj (h2.symm.trans (Stand.of_body B).code)
      intro x hx
      rw [Array.isEmpty_iff.mp h7] at hx
      cases hx
    have hD := hD0.self (sz := s.heap.size)
    have X : Cx p s m As.toArray meth c D tys (va_A (wd rh rc n σ) s.heap.size) cc nL y.cls := ⟨B.exec, B.bytes, hml, findClass_of_methodNamed B.named, fun w h => atoms_spec (ws := Cond.code y cc nL none :: gw) B.pre w (List.mem_cons_of_mem _ h), hK, hN, fun q h => Or.inr h, B.notSynchronized, hZ, wd_ns hP⟩
    have hl := lv_entry As (n := nL) hL
    obtain ⟨t, a1, o, b1, b2, b3⟩ := body p e s m As.toArray below meth c _ (fun t => ∃ o, t.status = .running ∧ Ended t below o ∧ XQ (va_A (wd rh rc n σ) s.heap.size) mc ms (Bz D rh rc n (va_A (wd rh rc n σ) s.heap.size)) (fun _ => none) F As.toArray s o t) X (by
        intro pc lv k1 k2 s' hF hc1 hc2 hd H locs ls hP1 hD1 hS1 hl1 T hT Xs
        have k9 := W.vret (p := p) (l := l) (e := e) (m := m) (args := As.toArray) (R := Rq dp mc ms) (below := below) (cells := mc) (slots := ms) (Qc := fun _ st o t => o = .returned (none) ∧ Bz D rh rc n (va_A (wd rh rc n σ) s.heap.size) s' t ∧ va_F (va_A (wd rh rc n σ) s.heap.size) st t) (free := va_A (wd rh rc n σ) s.heap.size) (ls := ls) X.1 X.2.1 B.returns (fun t ht hW => ⟨rfl, ⟨by rw [ht]; exact hP1, hD1⟩, hS1.F ht⟩) hS1.2.2 hd B.notSynchronized
        obtain ⟨t, a1, o, b1, b2, ⟨b3, b4, b5⟩, b6⟩ := W.widen hc1 hc2 k9 T hT Xs
        subst hF
        exact ⟨t, a1, o, b1, b2, Or.inl ⟨rfl, b3, b6, b4, b5⟩⟩) (by
        intro pc lv st k1 k2 k s' hF hk hc1 hc2 H locs ls q ce hP1 hD1 hS1 hl1 hce hcv hcl T hT Xs
        obtain ⟨st1, hrun, hendd, hW, hsm⟩ := Xs.leaveThrown q (g := F0 m pc ls st) rfl rfl rfl (fun x hx => absurd (htb x hx) id) B.notSynchronized
        subst hF
        exact ⟨_, st1, .threw q, hrun, hendd, Or.inr ⟨hk, q, ce, locs, rfl, (show T.heap[q]? = some ce by rw [hT]; exact hce), hcv, hcl, hW, hsm.mono hc1 hc2, hS1.2.2, ⟨(show va_P D vwCl _ T.heap by rw [hT]; exact hP1), hD1⟩, hS1.F (show T.heap = H from hT)⟩⟩) (by
        intro pc lv st k1 k2 k s' ik ic names hF hk hw d0 d3 d4 d7 hc1 hc2 hfr hlo H locs ls hP1 hD1 hS1 hl1 T hT Xs
        have htr : e.platform.stackTraces = false := (show e.platform.stackTraces = l.stackTraces by rw [Xs.admits.platform]).trans hlt
        have Y := st_anew Xs (R' := { frames := dp, locals := 30 * dp, cells := 1, slots := 6 }) (Nat.le_refl _) (Nat.le_refl _) hc1 hc2
        obtain ⟨s0, hA⟩ : ∃ z, z = (T.setVm s.vm).setFrames (.invoking m As.toArray :: below) := ⟨_, rfl⟩
        rw [← hA] at Y
        have hvm : s.vm = s0.vm := by rw [hA]; rfl
        have hhp : s0.heap = H := by rw [hA]; exact hT
        have hW0 : s.WarmedH s0.vm := by rw [← hvm]; exact State.WarmedH.refl s
        have hZ0 : Sz (va_A (wd rh rc n σ) s.heap.size) s0 s0.heap := by
          rw [hhp]
          exact hZ.move hW0.alike hS1.2.1 (fun _ h => h)
        have hg0 : ∀ w ∈ gw, w.before As.toArray s0 = true := fun w h => word_at hW0 (good_of_word (List.mem_filter.mp h).2) (X.2.2.2.2.1 w h)
        have hat := hw.at (args := As.toArray) (U := s0) X.2.2.2.2.1 (Nz.same hvm hN) ⟨_, hZ0⟩ hvm
        have hown0 : s0.vm.findClass y.cls = some m.cls := by rw [← hvm]; exact X.2.2.2.1
        obtain ⟨vm₁, cX, kX, hfX, hkX, -, -, X₁, st1⟩ := Y.newCold X.1 (own := y.cls) (C := exN k) (index := ik) (n := 6) hown0 (hg0 _ hw.1) (hat _ (by simp [Bundle.ownAtoms0])) (hg0 _ hw.2.1)
          (g := F0 m pc ls st) rfl (by rw [X.2.1]; exact d0) (Nat.le_refl _) (Nat.le_refl _)
        generalize hT1 : (T.setVm vm₁).pushCell { cls := cX, slots := kX.instanceTypes.map defaultValue, vm := .none } = T1 at X₁ st1
        have hcat : (Value.ref T.heap.size).category = 1 := rfl
        have hcellA : T1.heap[T.heap.size]? = some (freshCell cX kX) := by rw [← hT1]; exact State.heap_pushCell_size _ _
        have d3' : decode c.code (pc + 3) = .ok (.dup, 1) := by rw [X.2.1]; exact d3
        have hmr : (F0 m pc ls st).monitorRoom = 0 := rfl
        obtain ⟨U, hsteps, hrun, hendd, hW, hsame, ce, hce, hO⟩ := X₁.ctorThrow0 X.1 htr (own := y.cls) (cls := exN k) (names := names) (ic := ic) hown0 hw.2.2.1 hw.2.2.2.1 hat (fun x hx => nomatch hx) hfX hkX hcellA (by rw [hhp, hT]; exact Nat.le_refl _)
          (g := { method := m, pc := pc + 4, locals := ls, stack := .ref T.heap.size :: .ref T.heap.size :: st, locked := none }) rfl (hl1.1.trans hml.symm) rfl rfl (rest := st) rfl
          (by rw [X.2.1]; exact d4) (by rw [X.2.1]; exact d7) (fun x hx => absurd (htb x hx) id) hfr (by simp only [List.map_cons, List.sum_cons, hcat]; omega) B.notSynchronized
        obtain ⟨f1, f2⟩ := old_same hsame
        rw [hhp] at f1 f2
        have hWs : s.WarmedH U.vm := State.WarmedH.trans hW0 hW
        have hcl : s.vm.findClass (exN k) = some ce.cls := by rw [hvm]; exact hO.cls
        have hall : s.sameButNew ({ U with vm := s.vm } : State) locs mc ms := by
          subst hA
          obtain ⟨e1, e2⟩ := hsame
          rw [State.setFrames_setFrames] at e1
          have h2 : (T.setVm s.vm).sameButNew ({ U with vm := s.vm } : State) [] (0 + 1) (0 + 6) := ⟨e1, e2⟩
          have h3 := Xs.same.trans h2
          rw [List.append_nil] at h3
          exact h3.mono hc1 hc2
        have hPU : va_P D vwCl (wd rh rc n s') U.heap := fun i q hq => (hP1 i q hq).kept (f2 q.1 (hP1 i q hq).lt)
        subst hF
        refine ⟨U, ?_, .threw T.heap.size, hrun, hendd, Or.inr ⟨hk, T.heap.size, ce, locs, rfl, hce, hO.vm, hcl, hWs, hall, hS1.2.2, ⟨hPU, hD1⟩, ⟨Nat.le_trans hS1.1 f1, fun q h1 h2 => (f2 q (Nat.lt_of_lt_of_le h1 hS1.1)).trans (hS1.2.1 q h1 h2)⟩⟩⟩
        refine st1 _ ?_
        show Steps p.tables e below (T1.setTop { method := m, pc := pc + 3, locals := ls, stack := .ref T.heap.size :: st, locked := none }) _
        jvm_step X₁.here [X₁.here.top, X.1, d3', Value.category]
        exact hsteps) s.heap [] _ hP hD va_S.rf hl s₁ hh0 (Stand.of_body B)
    rw [← lg_entry_eq] at a1
    exact ⟨t, o, a1, b1, b2, b3⟩
section VZXC
variable {p : Program} {l : Launch} {e : Env} {R : Room} {s : State} {m : MethodId} {args : Array Value} {below : List Frame} {meth : Method} {c : Code} {D : va_G} {tys : List (ClassId × FieldType)} {A : Nat → Prop} {cc : ByteArray} {nL : Nat} {own : String} {rh : Nat → Nat} {rc : Nat → (Nat → Int32) → va_E} {n : Nat} {cells slots : Nat} {Q : State → Prop} {pc : Nat} {lv lv' : List (Nat × Value)} {st : List Value} {σ : St}
set_option maxHeartbeats 1000000 in
theorem v_callS_CFI (X : Cx p s m args meth c D tys A cc nL own) {y : MethodName} {bytes : ByteArray} {nL' dp mc ms ix kA : Nat} {rest : List Value} {F : Int32 × Int32 × St} (As : List Value) (hC : CFI l D tys rh rc n y bytes nL' dp mc ms As σ F) (hm : MF y bytes nL' (some .int) kA) (hst : Cond.static y ∈ gw) (hlk : Cond.methodLink own ix y ∈ gw) (hA : As.length = kA) (hR : (Rq dp mc ms).frames + 1 ≤ R.frames ∧ 8 + (nL' + 11) + (Rq dp mc ms).locals ≤ R.locals) (hrm : (rest.map fun v => v.category).sum ≤ 8) (hf : cells + mc ≤ R.cells ∧ slots + ms ≤ R.slots) (d : decode cc pc = .ok (.invokestatic ix, 3))
    (kx : ¬ F.1 = 0 → Tz p l e R s m args below meth c D A nL rh rc n (cells + mc) (slots + ms) Q pc lv rest F.2.2 (exN F.1)) (kk : F.1 = 0 → Vz p l e R s m args below meth c D A nL rh rc n (cells + mc) (slots + ms) Q (pc + 3) lv (.int F.2.1 :: rest) F.2.2) : Vz p l e R s m args below meth c D A nL rh rc n cells slots Q pc lv (As.reverse ++ rest) σ := by
  intro H locs ls hP hD hS hl T hT Xs
  have hFc := vz_free X hD hS
  have hts := X.2.2.2.2.1
  have hlen : ∀ sig, parseMethodDescriptor y.desc = some sig → As.length = sig.parameters.length := by
    intro sig h
    have h2 := hm.2.2.2.2
    rw [h] at h2
    exact hA.trans (Option.some.inj h2).symm
  obtain ⟨mk, hnamed⟩ := Cond.code_named (hts _ hm.1)
  obtain ⟨methM, cM, hmethM, hcM, -, hlM, -, -, -, hsigM⟩ := Cond.code_spec hnamed (hts _ hm.1)
  have hstatic : methM.isStatic = true := Cond.static_spec hnamed hmethM (hts _ hst)
  obtain ⟨kP, hkP, -⟩ := className_of_methodNamed hnamed
  have hinitP : kP.init = .initialized := Cond.initialized_spec (findClass_of_methodNamed hnamed) hkP (hts _ hm.2.1)
  obtain ⟨vm₁, X₁, hstep₁⟩ := Xs.invokestatic X.1 X.2.2.2.1 (hts _ hlk) hnamed hmethM hstatic hkP hinitP ⟨hm.2.2.1, hm.2.2.2.1⟩ (g := F0 m pc ls (As.reverse ++ rest)) rfl (argsL := As) (rest := rest) (hlen _ hsigM) rfl (by rw [X.2.1]; exact d)
  have hml : (T.setVm vm₁).vm.method? mk = some methM := by rw [X₁.warmed.alike.method?]; exact hmethM
  obtain ⟨o, s₂, hq, kr, kt⟩ := xcall (a := (As : List Value).toArray) (g := F0 m pc ls rest) (maxL := nL') (len := 3) X₁ (hC H.size) (fun w h => by
      rcases List.mem_cons.mp h with rfl | h
      · exact word_at X₁.warmed (good_of_word (List.mem_filter.mp hm.1).2) (hts _ hm.1)
      · exact word_at X₁.warmed (good_of_word (List.mem_filter.mp h).2) (hts _ h)) (fun mY cY g1 g2 => by cases Option.some.inj (g1.symm.trans hml); cases Option.some.inj (g2.symm.trans hcM); exact hlM) ⟨methM, cM, hml, hcM⟩
    (word_at X₁.warmed (good_of_word (List.mem_filter.mp hm.2.1).2) (hts _ hm.2.1)) hf.1 hf.2 hR.1 hR.2
    (Pz.blind _ _ _ _ ⟨rfl, by show T.heap.size = H.size; rw [hT], by show va_P D vwCl _ T.heap; rw [hT]; exact hP, va_K.moved X₁.warmed.alike X.2.2.2.2.2.1, Nz.warm X₁.warmed X.2.2.2.2.2.2.1, Sz.move X.2.2.2.2.2.2.2.2.2.1 X₁.warmed.alike (fun a9 h8 h9 => by show T.heap[a9]? = _; rw [hT]; exact hS.2.1 a9 h8 h9) hFc, hD.weaken (fun _ _ _ _ => trivial)⟩)
    rfl (hl.1.trans X.2.2.1.symm) (by rw [X.2.1]; exact d) (lv_room hrm) (X₁.named hnamed)
  have hH : ((T.setVm vm₁).calling (F0 m pc ls rest) mk (As : List Value).toArray).heap = H := hT
  have keep : ∀ (L : List Loc) (t : State), (∀ z ∈ L, va_A (wd rh rc n σ) H.size z.base) → va_F (va_A (wd rh rc n σ) H.size) ((T.setVm vm₁).calling (F0 m pc ls rest) mk (As : List Value).toArray) t → va_S A s.heap t.heap (locs ++ L) := by
    intro L t hL hF
    obtain ⟨hz, hk⟩ := hF
    rw [hH] at hz hk
    refine ⟨Nat.le_trans hS.1 hz, fun q h1 h2 => ?_, fun z hz2 => ?_⟩
    · rw [hk q (Nat.lt_of_lt_of_le h1 hS.1) (fun z => h2 (hFc q z))]
      exact hS.2.1 q h1 h2
    · rcases List.mem_append.mp hz2 with h | h
      · exact hS.2.2 z h
      · exact hFc _ (hL z h)
  rcases hq with ⟨h0, ho, ⟨L, hfe, hL⟩, ⟨hP1, hD1⟩, hF⟩ | ⟨h0, q, ce, L, ho, hce, hcv, hcl, hW2, hsm, hL, ⟨hP1, hD1⟩, hF⟩
  · obtain ⟨T', X', e1, e2, hst9⟩ := kr _ L mc ms ho hfe
    obtain ⟨t2, a1, b1⟩ := kk h0 s₂.heap (locs ++ L) ls hP1 (hD1.weaken (fun _ _ _ h => hFc _ h)) (keep L s₂ hL hF) hl T' e1 X'
    exact ⟨t2, hstep₁ _ fun acts => by rw [doInvoke_state]; exact hst9.trans a1, b1⟩
  · obtain ⟨T', X', e1, e2, hst9⟩ := kt q L mc ms ho hW2 hsm
    have hcl2 : s.vm.findClass (exN F.1) = some ce.cls := by
      have h9 : (T.setVm vm₁).vm.findClass (exN F.1) = some ce.cls := hcl
      rw [X₁.warmed.alike.findClass] at h9
      exact h9
    obtain ⟨t2, a1, b1⟩ := kx h0 s₂.heap (locs ++ L) ls q ce hP1 (hD1.weaken (fun _ _ _ h => hFc _ h)) (keep L s₂ hL hF) hl hce hcv hcl2 T' e1 X'
    exact ⟨t2, hstep₁ _ fun acts => by rw [doInvoke_state]; exact hst9.trans a1, b1⟩
set_option maxHeartbeats 1000000 in
theorem v_callV_CFI (X : Cx p s m args meth c D tys A cc nL own) {y : MethodName} {bytes : ByteArray} {nL' dp mc ms ix kA : Nat} {i ci N : Nat} {T : u_T} {G : (Nat → Int32) → List Value} {rest : List Value} {F : Int32 × Int32 × St} (As : List Value) (hC : CFI l D tys rh rc n y bytes nL' dp mc ms (.ref (rh i) :: As) σ F) (hm : MF y bytes nL' (some .int) kA) (hins : Cond.instanceMethod y ∈ gw) (hsel : Cond.selects y.cls y y ∈ gw) (hi : i < n) (hr : ∀ f, rc i f = .inr (ci, G f)) (hc : vwCl[ci]? = some (y.cls, T, N)) (hlk : Cond.methodLink own ix y ∈ gw) (hA : As.length = kA) (hR : (Rq dp mc ms).frames + 1 ≤ R.frames ∧ 8 + (nL' + 11) + (Rq dp mc ms).locals ≤ R.locals) (hrm : (rest.map fun v => v.category).sum ≤ 8) (hf : cells + mc ≤ R.cells ∧ slots + ms ≤ R.slots) (d : decode cc pc = .ok (.invokevirtual ix, 3))
    (kx : ¬ F.1 = 0 → Tz p l e R s m args below meth c D A nL rh rc n (cells + mc) (slots + ms) Q pc lv rest F.2.2 (exN F.1)) (kk : F.1 = 0 → Vz p l e R s m args below meth c D A nL rh rc n (cells + mc) (slots + ms) Q (pc + 3) lv (.int F.2.1 :: rest) F.2.2) : Vz p l e R s m args below meth c D A nL rh rc n cells slots Q pc lv (As.reverse ++ .ref (rh i) :: rest) σ := by
  intro H locs ls hP hD hS hl T hT Xs
  have hFc := vz_free X hD hS
  have hts := X.2.2.2.2.1
  have hlen : ∀ sig, parseMethodDescriptor y.desc = some sig → As.length = sig.parameters.length := by
    intro sig h
    have h2 := hm.2.2.2.2
    rw [h] at h2
    exact hA.trans (Option.some.inj h2).symm
  obtain ⟨mk, methM, hnamed, hmethM, hstM, habM⟩ := Cond.instanceMethod_spec (hts _ hins)
  obtain ⟨methM', cM, hmethM', hcM, -, hlM, -, -, -, hsigM⟩ := Cond.code_spec hnamed (hts _ hm.1)
  cases hmethM.symm.trans hmethM'
  obtain ⟨cellB, hcB, hoB, hclB⟩ := va_recv X.2.2.2.2.2.1 hP hc (show (wd rh rc n σ)[i]? = some (rh i, .inr (ci, G (σ i))) by rw [wd_at hi, hr])
  obtain ⟨c2, r2, m2, q1, q2, q3, q4, kP, hkP, hkPi⟩ := Cond.selects_spec (hts _ hsel)
  cases hclB.symm.trans q1
  cases (State.methodFound?_of_named hnamed ⟨hm.2.2.1, hm.2.2.2.1⟩).symm.trans q2
  cases hnamed.symm.trans q3
  have hselP : selectMethod e.platform s.vm cellB.cls mk = .method mk := by rw [Launch.admits_selectMethod Xs.admits]; exact q4
  obtain ⟨vm₁, X₁, hstep₁⟩ := Xs.invokevirtual X.1 X.2.2.2.1 (hts _ hlk) hnamed hmethM hstM hkP hkPi ⟨hm.2.2.1, hm.2.2.2.1⟩ (a := rh i) (cell := cellB) (by rw [hT]; exact hcB)
    (fun z h => by rw [h] at hoB; cases hoB) hselP hmethM habM hkP hkPi (g := F0 m pc ls (As.reverse ++ .ref (rh i) :: rest)) rfl (argsL := As) (rest := rest) (hlen _ hsigM) rfl (by rw [X.2.1]; exact d)
  have hml : (T.setVm vm₁).vm.method? mk = some methM := by rw [X₁.warmed.alike.method?]; exact hmethM
  obtain ⟨o, s₂, hq, kr, kt⟩ := xcall (a := ((.ref (rh i) :: As) : List Value).toArray) (g := F0 m pc ls rest) (maxL := nL') (len := 3) X₁ (hC H.size) (fun w h => by
      rcases List.mem_cons.mp h with rfl | h
      · exact word_at X₁.warmed (good_of_word (List.mem_filter.mp hm.1).2) (hts _ hm.1)
      · exact word_at X₁.warmed (good_of_word (List.mem_filter.mp h).2) (hts _ h)) (fun mY cY g1 g2 => by cases Option.some.inj (g1.symm.trans hml); cases Option.some.inj (g2.symm.trans hcM); exact hlM) ⟨methM, cM, hml, hcM⟩
    (word_at X₁.warmed (good_of_word (List.mem_filter.mp hm.2.1).2) (hts _ hm.2.1)) hf.1 hf.2 hR.1 hR.2
    (Pz.blind _ _ _ _ ⟨rfl, by show T.heap.size = H.size; rw [hT], by show va_P D vwCl _ T.heap; rw [hT]; exact hP, va_K.moved X₁.warmed.alike X.2.2.2.2.2.1, Nz.warm X₁.warmed X.2.2.2.2.2.2.1, Sz.move X.2.2.2.2.2.2.2.2.2.1 X₁.warmed.alike (fun a9 h8 h9 => by show T.heap[a9]? = _; rw [hT]; exact hS.2.1 a9 h8 h9) hFc, hD.weaken (fun _ _ _ _ => trivial)⟩)
    rfl (hl.1.trans X.2.2.1.symm) (by rw [X.2.1]; exact d) (lv_room hrm) (X₁.named hnamed)
  have hH : ((T.setVm vm₁).calling (F0 m pc ls rest) mk ((.ref (rh i) :: As) : List Value).toArray).heap = H := hT
  have keep : ∀ (L : List Loc) (t : State), (∀ z ∈ L, va_A (wd rh rc n σ) H.size z.base) → va_F (va_A (wd rh rc n σ) H.size) ((T.setVm vm₁).calling (F0 m pc ls rest) mk ((.ref (rh i) :: As) : List Value).toArray) t → va_S A s.heap t.heap (locs ++ L) := by
    intro L t hL hF
    obtain ⟨hz, hk⟩ := hF
    rw [hH] at hz hk
    refine ⟨Nat.le_trans hS.1 hz, fun q h1 h2 => ?_, fun z hz2 => ?_⟩
    · rw [hk q (Nat.lt_of_lt_of_le h1 hS.1) (fun z => h2 (hFc q z))]
      exact hS.2.1 q h1 h2
    · rcases List.mem_append.mp hz2 with h | h
      · exact hS.2.2 z h
      · exact hFc _ (hL z h)
  rcases hq with ⟨h0, ho, ⟨L, hfe, hL⟩, ⟨hP1, hD1⟩, hF⟩ | ⟨h0, q, ce, L, ho, hce, hcv, hcl, hW2, hsm, hL, ⟨hP1, hD1⟩, hF⟩
  · obtain ⟨T', X', e1, e2, hst9⟩ := kr _ L mc ms ho hfe
    obtain ⟨t2, a1, b1⟩ := kk h0 s₂.heap (locs ++ L) ls hP1 (hD1.weaken (fun _ _ _ h => hFc _ h)) (keep L s₂ hL hF) hl T' e1 X'
    exact ⟨t2, hstep₁ _ fun acts => by rw [doInvoke_state]; exact hst9.trans a1, b1⟩
  · obtain ⟨T', X', e1, e2, hst9⟩ := kt q L mc ms ho hW2 hsm
    have hcl2 : s.vm.findClass (exN F.1) = some ce.cls := by
      have h9 : (T.setVm vm₁).vm.findClass (exN F.1) = some ce.cls := hcl
      rw [X₁.warmed.alike.findClass] at h9
      exact h9
    obtain ⟨t2, a1, b1⟩ := kx h0 s₂.heap (locs ++ L) ls q ce hP1 (hD1.weaken (fun _ _ _ h => hFc _ h)) (keep L s₂ hL hF) hl hce hcv hcl2 T' e1 X'
    exact ⟨t2, hstep₁ _ fun acts => by rw [doInvoke_state]; exact hst9.trans a1, b1⟩
set_option maxHeartbeats 1000000 in
theorem v_callS_CFV (X : Cx p s m args meth c D tys A cc nL own) {y : MethodName} {bytes : ByteArray} {nL' dp mc ms ix kA : Nat} {rest : List Value} {F : Int32 × Int32 × St} (As : List Value) (hC : CFV l D tys rh rc n y bytes nL' dp mc ms As σ F) (hm : MF y bytes nL' none kA) (hst : Cond.static y ∈ gw) (hlk : Cond.methodLink own ix y ∈ gw) (hA : As.length = kA) (hR : (Rq dp mc ms).frames + 1 ≤ R.frames ∧ 8 + (nL' + 11) + (Rq dp mc ms).locals ≤ R.locals) (hrm : (rest.map fun v => v.category).sum ≤ 8) (hf : cells + mc ≤ R.cells ∧ slots + ms ≤ R.slots) (d : decode cc pc = .ok (.invokestatic ix, 3))
    (kx : ¬ F.1 = 0 → Tz p l e R s m args below meth c D A nL rh rc n (cells + mc) (slots + ms) Q pc lv rest F.2.2 (exN F.1)) (kk : F.1 = 0 → Vz p l e R s m args below meth c D A nL rh rc n (cells + mc) (slots + ms) Q (pc + 3) lv rest F.2.2) : Vz p l e R s m args below meth c D A nL rh rc n cells slots Q pc lv (As.reverse ++ rest) σ := by
  intro H locs ls hP hD hS hl T hT Xs
  have hFc := vz_free X hD hS
  have hts := X.2.2.2.2.1
  have hlen : ∀ sig, parseMethodDescriptor y.desc = some sig → As.length = sig.parameters.length := by
    intro sig h
    have h2 := hm.2.2.2.2
    rw [h] at h2
    exact hA.trans (Option.some.inj h2).symm
  obtain ⟨mk, hnamed⟩ := Cond.code_named (hts _ hm.1)
  obtain ⟨methM, cM, hmethM, hcM, -, hlM, -, -, -, hsigM⟩ := Cond.code_spec hnamed (hts _ hm.1)
  have hstatic : methM.isStatic = true := Cond.static_spec hnamed hmethM (hts _ hst)
  obtain ⟨kP, hkP, -⟩ := className_of_methodNamed hnamed
  have hinitP : kP.init = .initialized := Cond.initialized_spec (findClass_of_methodNamed hnamed) hkP (hts _ hm.2.1)
  obtain ⟨vm₁, X₁, hstep₁⟩ := Xs.invokestatic X.1 X.2.2.2.1 (hts _ hlk) hnamed hmethM hstatic hkP hinitP ⟨hm.2.2.1, hm.2.2.2.1⟩ (g := F0 m pc ls (As.reverse ++ rest)) rfl (argsL := As) (rest := rest) (hlen _ hsigM) rfl (by rw [X.2.1]; exact d)
  have hml : (T.setVm vm₁).vm.method? mk = some methM := by rw [X₁.warmed.alike.method?]; exact hmethM
  obtain ⟨o, s₂, hq, kr, kt⟩ := xcall (a := (As : List Value).toArray) (g := F0 m pc ls rest) (maxL := nL') (len := 3) X₁ (hC H.size) (fun w h => by
      rcases List.mem_cons.mp h with rfl | h
      · exact word_at X₁.warmed (good_of_word (List.mem_filter.mp hm.1).2) (hts _ hm.1)
      · exact word_at X₁.warmed (good_of_word (List.mem_filter.mp h).2) (hts _ h)) (fun mY cY g1 g2 => by cases Option.some.inj (g1.symm.trans hml); cases Option.some.inj (g2.symm.trans hcM); exact hlM) ⟨methM, cM, hml, hcM⟩
    (word_at X₁.warmed (good_of_word (List.mem_filter.mp hm.2.1).2) (hts _ hm.2.1)) hf.1 hf.2 hR.1 hR.2
    (Pz.blind _ _ _ _ ⟨rfl, by show T.heap.size = H.size; rw [hT], by show va_P D vwCl _ T.heap; rw [hT]; exact hP, va_K.moved X₁.warmed.alike X.2.2.2.2.2.1, Nz.warm X₁.warmed X.2.2.2.2.2.2.1, Sz.move X.2.2.2.2.2.2.2.2.2.1 X₁.warmed.alike (fun a9 h8 h9 => by show T.heap[a9]? = _; rw [hT]; exact hS.2.1 a9 h8 h9) hFc, hD.weaken (fun _ _ _ _ => trivial)⟩)
    rfl (hl.1.trans X.2.2.1.symm) (by rw [X.2.1]; exact d) (lv_room hrm) (X₁.named hnamed)
  have hH : ((T.setVm vm₁).calling (F0 m pc ls rest) mk (As : List Value).toArray).heap = H := hT
  have keep : ∀ (L : List Loc) (t : State), (∀ z ∈ L, va_A (wd rh rc n σ) H.size z.base) → va_F (va_A (wd rh rc n σ) H.size) ((T.setVm vm₁).calling (F0 m pc ls rest) mk (As : List Value).toArray) t → va_S A s.heap t.heap (locs ++ L) := by
    intro L t hL hF
    obtain ⟨hz, hk⟩ := hF
    rw [hH] at hz hk
    refine ⟨Nat.le_trans hS.1 hz, fun q h1 h2 => ?_, fun z hz2 => ?_⟩
    · rw [hk q (Nat.lt_of_lt_of_le h1 hS.1) (fun z => h2 (hFc q z))]
      exact hS.2.1 q h1 h2
    · rcases List.mem_append.mp hz2 with h | h
      · exact hS.2.2 z h
      · exact hFc _ (hL z h)
  rcases hq with ⟨h0, ho, ⟨L, hfe, hL⟩, ⟨hP1, hD1⟩, hF⟩ | ⟨h0, q, ce, L, ho, hce, hcv, hcl, hW2, hsm, hL, ⟨hP1, hD1⟩, hF⟩
  · obtain ⟨T', X', e1, e2, hst9⟩ := kr _ L mc ms ho hfe
    obtain ⟨t2, a1, b1⟩ := kk h0 s₂.heap (locs ++ L) ls hP1 (hD1.weaken (fun _ _ _ h => hFc _ h)) (keep L s₂ hL hF) hl T' e1 X'
    exact ⟨t2, hstep₁ _ fun acts => by rw [doInvoke_state]; exact hst9.trans a1, b1⟩
  · obtain ⟨T', X', e1, e2, hst9⟩ := kt q L mc ms ho hW2 hsm
    have hcl2 : s.vm.findClass (exN F.1) = some ce.cls := by
      have h9 : (T.setVm vm₁).vm.findClass (exN F.1) = some ce.cls := hcl
      rw [X₁.warmed.alike.findClass] at h9
      exact h9
    obtain ⟨t2, a1, b1⟩ := kx h0 s₂.heap (locs ++ L) ls q ce hP1 (hD1.weaken (fun _ _ _ h => hFc _ h)) (keep L s₂ hL hF) hl hce hcv hcl2 T' e1 X'
    exact ⟨t2, hstep₁ _ fun acts => by rw [doInvoke_state]; exact hst9.trans a1, b1⟩
set_option maxHeartbeats 1000000 in
theorem v_callV_CFV (X : Cx p s m args meth c D tys A cc nL own) {y : MethodName} {bytes : ByteArray} {nL' dp mc ms ix kA : Nat} {i ci N : Nat} {T : u_T} {G : (Nat → Int32) → List Value} {rest : List Value} {F : Int32 × Int32 × St} (As : List Value) (hC : CFV l D tys rh rc n y bytes nL' dp mc ms (.ref (rh i) :: As) σ F) (hm : MF y bytes nL' none kA) (hins : Cond.instanceMethod y ∈ gw) (hsel : Cond.selects y.cls y y ∈ gw) (hi : i < n) (hr : ∀ f, rc i f = .inr (ci, G f)) (hc : vwCl[ci]? = some (y.cls, T, N)) (hlk : Cond.methodLink own ix y ∈ gw) (hA : As.length = kA) (hR : (Rq dp mc ms).frames + 1 ≤ R.frames ∧ 8 + (nL' + 11) + (Rq dp mc ms).locals ≤ R.locals) (hrm : (rest.map fun v => v.category).sum ≤ 8) (hf : cells + mc ≤ R.cells ∧ slots + ms ≤ R.slots) (d : decode cc pc = .ok (.invokevirtual ix, 3))
    (kx : ¬ F.1 = 0 → Tz p l e R s m args below meth c D A nL rh rc n (cells + mc) (slots + ms) Q pc lv rest F.2.2 (exN F.1)) (kk : F.1 = 0 → Vz p l e R s m args below meth c D A nL rh rc n (cells + mc) (slots + ms) Q (pc + 3) lv rest F.2.2) : Vz p l e R s m args below meth c D A nL rh rc n cells slots Q pc lv (As.reverse ++ .ref (rh i) :: rest) σ := by
  intro H locs ls hP hD hS hl T hT Xs
  have hFc := vz_free X hD hS
  have hts := X.2.2.2.2.1
  have hlen : ∀ sig, parseMethodDescriptor y.desc = some sig → As.length = sig.parameters.length := by
    intro sig h
    have h2 := hm.2.2.2.2
    rw [h] at h2
    exact hA.trans (Option.some.inj h2).symm
  obtain ⟨mk, methM, hnamed, hmethM, hstM, habM⟩ := Cond.instanceMethod_spec (hts _ hins)
  obtain ⟨methM', cM, hmethM', hcM, -, hlM, -, -, -, hsigM⟩ := Cond.code_spec hnamed (hts _ hm.1)
  cases hmethM.symm.trans hmethM'
  obtain ⟨cellB, hcB, hoB, hclB⟩ := va_recv X.2.2.2.2.2.1 hP hc (show (wd rh rc n σ)[i]? = some (rh i, .inr (ci, G (σ i))) by rw [wd_at hi, hr])
  obtain ⟨c2, r2, m2, q1, q2, q3, q4, kP, hkP, hkPi⟩ := Cond.selects_spec (hts _ hsel)
  cases hclB.symm.trans q1
  cases (State.methodFound?_of_named hnamed ⟨hm.2.2.1, hm.2.2.2.1⟩).symm.trans q2
  cases hnamed.symm.trans q3
  have hselP : selectMethod e.platform s.vm cellB.cls mk = .method mk := by rw [Launch.admits_selectMethod Xs.admits]; exact q4
  obtain ⟨vm₁, X₁, hstep₁⟩ := Xs.invokevirtual X.1 X.2.2.2.1 (hts _ hlk) hnamed hmethM hstM hkP hkPi ⟨hm.2.2.1, hm.2.2.2.1⟩ (a := rh i) (cell := cellB) (by rw [hT]; exact hcB)
    (fun z h => by rw [h] at hoB; cases hoB) hselP hmethM habM hkP hkPi (g := F0 m pc ls (As.reverse ++ .ref (rh i) :: rest)) rfl (argsL := As) (rest := rest) (hlen _ hsigM) rfl (by rw [X.2.1]; exact d)
  have hml : (T.setVm vm₁).vm.method? mk = some methM := by rw [X₁.warmed.alike.method?]; exact hmethM
  obtain ⟨o, s₂, hq, kr, kt⟩ := xcall (a := ((.ref (rh i) :: As) : List Value).toArray) (g := F0 m pc ls rest) (maxL := nL') (len := 3) X₁ (hC H.size) (fun w h => by
      rcases List.mem_cons.mp h with rfl | h
      · exact word_at X₁.warmed (good_of_word (List.mem_filter.mp hm.1).2) (hts _ hm.1)
      · exact word_at X₁.warmed (good_of_word (List.mem_filter.mp h).2) (hts _ h)) (fun mY cY g1 g2 => by cases Option.some.inj (g1.symm.trans hml); cases Option.some.inj (g2.symm.trans hcM); exact hlM) ⟨methM, cM, hml, hcM⟩
    (word_at X₁.warmed (good_of_word (List.mem_filter.mp hm.2.1).2) (hts _ hm.2.1)) hf.1 hf.2 hR.1 hR.2
    (Pz.blind _ _ _ _ ⟨rfl, by show T.heap.size = H.size; rw [hT], by show va_P D vwCl _ T.heap; rw [hT]; exact hP, va_K.moved X₁.warmed.alike X.2.2.2.2.2.1, Nz.warm X₁.warmed X.2.2.2.2.2.2.1, Sz.move X.2.2.2.2.2.2.2.2.2.1 X₁.warmed.alike (fun a9 h8 h9 => by show T.heap[a9]? = _; rw [hT]; exact hS.2.1 a9 h8 h9) hFc, hD.weaken (fun _ _ _ _ => trivial)⟩)
    rfl (hl.1.trans X.2.2.1.symm) (by rw [X.2.1]; exact d) (lv_room hrm) (X₁.named hnamed)
  have hH : ((T.setVm vm₁).calling (F0 m pc ls rest) mk ((.ref (rh i) :: As) : List Value).toArray).heap = H := hT
  have keep : ∀ (L : List Loc) (t : State), (∀ z ∈ L, va_A (wd rh rc n σ) H.size z.base) → va_F (va_A (wd rh rc n σ) H.size) ((T.setVm vm₁).calling (F0 m pc ls rest) mk ((.ref (rh i) :: As) : List Value).toArray) t → va_S A s.heap t.heap (locs ++ L) := by
    intro L t hL hF
    obtain ⟨hz, hk⟩ := hF
    rw [hH] at hz hk
    refine ⟨Nat.le_trans hS.1 hz, fun q h1 h2 => ?_, fun z hz2 => ?_⟩
    · rw [hk q (Nat.lt_of_lt_of_le h1 hS.1) (fun z => h2 (hFc q z))]
      exact hS.2.1 q h1 h2
    · rcases List.mem_append.mp hz2 with h | h
      · exact hS.2.2 z h
      · exact hFc _ (hL z h)
  rcases hq with ⟨h0, ho, ⟨L, hfe, hL⟩, ⟨hP1, hD1⟩, hF⟩ | ⟨h0, q, ce, L, ho, hce, hcv, hcl, hW2, hsm, hL, ⟨hP1, hD1⟩, hF⟩
  · obtain ⟨T', X', e1, e2, hst9⟩ := kr _ L mc ms ho hfe
    obtain ⟨t2, a1, b1⟩ := kk h0 s₂.heap (locs ++ L) ls hP1 (hD1.weaken (fun _ _ _ h => hFc _ h)) (keep L s₂ hL hF) hl T' e1 X'
    exact ⟨t2, hstep₁ _ fun acts => by rw [doInvoke_state]; exact hst9.trans a1, b1⟩
  · obtain ⟨T', X', e1, e2, hst9⟩ := kt q L mc ms ho hW2 hsm
    have hcl2 : s.vm.findClass (exN F.1) = some ce.cls := by
      have h9 : (T.setVm vm₁).vm.findClass (exN F.1) = some ce.cls := hcl
      rw [X₁.warmed.alike.findClass] at h9
      exact h9
    obtain ⟨t2, a1, b1⟩ := kx h0 s₂.heap (locs ++ L) ls q ce hP1 (hD1.weaken (fun _ _ _ h => hFc _ h)) (keep L s₂ hL hF) hl hce hcv hcl2 T' e1 X'
    exact ⟨t2, hstep₁ _ fun acts => by rw [doInvoke_state]; exact hst9.trans a1, b1⟩
end VZXC
/-! CATCHING: the rows ahead of the one that takes it don't take it -/
/-- a row of the table that doesn't take an object of the class 'thrown' at pc -/
def rowNo (pl : Platform) (s : State) (d : ClassId) (pc : Nat) (thrown : ClassId) (z : ExceptionTableEntry) : Prop := covers z pc = false ∨ (z.catchType ≠ 0 ∧ ∃ c, s.vm.ClassLinks pl d z.catchType c ∧ s.vm.assignable thrown c = false)
/-- one row, by its link: the entry is noted; it takes the object, or the search goes on -/
theorem row_link {Q : Handler → Pre} {E : CtlPost} {e : Env} {d : Bool} {acts : List Action} {s : State} {f : JFrame} {a : Addr} {x : ExceptionTableEntry} {t : List ExceptionTableEntry} {c : ClassId} {cell : Cell} (hx : covers x f.pc = true) (h0 : x.catchType ≠ 0)
    (hl : s.vm.ClassLinks e.platform f.method.cls x.catchType c) (hcell : s.heap[a]? = some cell) (hobj : ∀ k, cell.vm ≠ .statics k)
    (hk : ∃ k, s.vm.classes[cell.cls]? = some k) (hc : ∃ k, s.vm.classes[c]? = some k) :
    wp (findHandler.go f a (x :: t)) Q E e d acts s ↔ if s.vm.assignable cell.cls c = true then Q (.found x.handlerPc) d acts (s.setVm (s.vm.noted f.method.cls x.catchType (.cls c))) else wp (findHandler.go f a t) Q E e d acts (s.setVm (s.vm.noted f.method.cls x.catchType (.cls c))) := by
  simp only [covers] at hx
  obtain ⟨ha, ht⟩ := (resolveClass_links e.toSetting hl).op (op := VmOp.resolveClass f.method.cls x.catchType) rfl
  have hal : s.vm.Alike (s.vm.noted f.method.cls x.catchType (.cls c)) := (Vm.Alike.refl s.vm).noted _ _ _
  obtain ⟨k1, hk1⟩ := hk
  obtain ⟨k2, hk2⟩ := hc
  obtain ⟨k1', hk1', -⟩ := hal.2.2 _ _ hk1
  obtain ⟨k2', hk2', -⟩ := hal.2.2 _ _ hk2
  cases hfit : s.vm.assignable cell.cls c with
  | true =>
    have hfit' : (s.vm.noted f.method.cls x.catchType (.cls c)).assignable cell.cls c = true := by rw [hal.assignable]; exact hfit
    simp [findHandler.go, hx, h0, ha, ht, hcell, hobj, hk1', hk2', hfit', VmOp.dirties, VmOp.acts]
  | false =>
    have hfit' : (s.vm.noted f.method.cls x.catchType (.cls c)).assignable cell.cls c = false := by rw [hal.assignable]; exact hfit
    simp [findHandler.go, hx, h0, ha, ht, hcell, hobj, hk1', hk2', hfit', VmOp.dirties, VmOp.acts]
theorem rows_to {e : Env} {s : State} {f : JFrame} {a : Addr} {cell : Cell} (hobj : ∀ k, cell.vm ≠ .statics k) {k0 : Class} (hk0 : s.vm.classes[cell.cls]? = some k0)
    (x : ExceptionTableEntry) (suf : List ExceptionTableEntry) (hx : covers x f.pc = true) (h0 : x.catchType ≠ 0) {c : ClassId} (hl : s.vm.ClassLinks e.platform f.method.cls x.catchType c) (hfit : s.vm.assignable cell.cls c = true) :
    ∀ (pre : List ExceptionTableEntry) (S : State), s.WarmedH S.vm → S.heap[a]? = some cell → (∀ z ∈ pre, rowNo e.platform s f.method.cls f.pc cell.cls z) →
      ∃ vm', s.WarmedH vm' ∧ ∀ (Q : Handler → Pre) (E : CtlPost) (d : Bool) (acts : List Action), wp (findHandler.go f a (pre ++ x :: suf)) Q E e d acts S ↔ Q (.found x.handlerPc) d acts (S.setVm vm') := by
  intro pre
  induction pre with
  | nil =>
    intro S hW hcell _
    obtain ⟨k1, hk1, -⟩ := hW.alike.2.2 _ _ hk0
    obtain ⟨dk, _, _, kt, hd, _, _, _, _, hkt, _, hopen⟩ := hl.here
    obtain ⟨kt', hkt', -⟩ := hW.alike.2.2 _ _ hkt
    refine ⟨_, hW.noted hd hopen (State.rightAt_cls hl), fun Q E d acts => ?_⟩
    rw [List.nil_append, row_link hx h0 (hW.classLinks hl) hcell hobj ⟨k1, hk1⟩ ⟨kt', hkt'⟩, if_pos (by rw [hW.alike.assignable]; exact hfit)]
  | cons z zs ih =>
    intro S hW hcell hno
    have hrest : ∀ w ∈ zs, rowNo e.platform s f.method.cls f.pc cell.cls w := fun w hw => hno w (List.mem_cons_of_mem _ hw)
    cases hcov : covers z f.pc with
    | false =>
      obtain ⟨vm', hW', hq⟩ := ih S hW hcell hrest
      exact ⟨vm', hW', fun Q E d acts => by rw [List.cons_append, W.findHandler_go_skip hcov]; exact hq Q E d acts⟩
    | true =>
      rcases hno z List.mem_cons_self with h | ⟨g0, c1, g1, g2⟩
      · rw [h] at hcov; cases hcov
      · obtain ⟨k1, hk1, -⟩ := hW.alike.2.2 _ _ hk0
        obtain ⟨dk, _, _, kt, hd, _, _, _, _, hkt, _, hopen⟩ := g1.here
        obtain ⟨kt', hkt', -⟩ := hW.alike.2.2 _ _ hkt
        obtain ⟨vm', hW', hq⟩ := ih (S.setVm (S.vm.noted f.method.cls z.catchType (.cls c1))) (hW.noted hd hopen (State.rightAt_cls g1)) hcell hrest
        refine ⟨vm', hW', fun Q E d acts => ?_⟩
        rw [List.cons_append, row_link hcov g0 (hW.classLinks g1) hcell hobj ⟨k1, hk1⟩ ⟨kt', hkt'⟩, if_neg (by rw [hW.alike.assignable, g2]; exact Bool.false_ne_true)]
        exact hq Q E d acts
theorem caught_step {tb : Tables} {e : Env} {s target : State} {g : JFrame} {c : Code} {below : List Frame} {a : Addr} (h : At s g.method c below) {pc : Nat} {vm' : Vm}
    (hfind : ∀ (Q : Handler → Pre) (E : CtlPost) (d : Bool) (acts : List Action), wp (findHandler g a) Q E e d acts ((s.setTop g).pushFrame (.throwing a)) ↔ Q (.found pc) d acts (((s.setTop g).pushFrame (.throwing a)).setVm vm'))
    (hrest : Steps tb e below ((s.setVm vm').setTop { g with pc := pc, stack := [.ref a] }) target) :
    Steps tb e below ((s.setTop g).pushFrame (.throwing a)) target := by
  obtain ⟨hgo, hw⟩ := h.throwing a
  refine Steps.head hgo hw ?_
  have step : ∀ (S : State) (r : List Frame), (∀ (Q : Handler → Pre) (E : CtlPost) (d : Bool) (acts : List Action), wp (findHandler g a) Q E e d acts S ↔ Q (.found pc) d acts (S.setVm vm')) → (stepThrowing e S a (.java g :: r)).Is ((S.setVm vm').setFrames (.java { g with pc := pc, stack := [.ref a] } :: r)) [] := by
    intro S r hf
    simp only [stepThrowing, searchFrame, vmDo]
    generalize hr : Sem.go _ e false [] S = res
    obtain ⟨as, rfl, ha⟩ := Sem.eq_ok_of hr (a := Handler.found pc) (s' := S.setVm vm') (acts' := []) (by simp [hf _ _ _ _])
    exact ⟨rfl, ha⟩
  have sv : ∀ (u : State) (F G : List Frame), ((u.setFrames F).setVm vm').setFrames G = (u.setVm vm').setFrames G := by
    intro u F G
    have h1 : (u.setFrames F).setVm vm' = (u.setVm vm').setFrames F := rfl
    rw [h1, State.setFrames_setFrames]
  rw [stepThread_throwing (frames_entered h.top _), (step ((s.setTop g).pushFrame (.throwing a)) _ hfind).1]
  obtain ⟨g₀, hg⟩ := Option.isSome_iff_exists.mp h.top
  obtain ⟨r, hr⟩ := State.topJava?_eq_some.mp hg
  have hr' : (s.setVm vm').frames = .java g₀ :: r := hr
  rw [State.setTop_of_frames _ hr'] at hrest
  rw [hr, List.tail_cons, State.pushFrame, sv, State.setTop_of_frames _ hr, sv]
  exact hrest
