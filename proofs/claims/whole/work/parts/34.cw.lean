/-! a call of a method with a table -/
def MW (y : MethodName) (cc : ByteArray) (nL : Nat) (hh : List (Nat × Nat × Nat × Nat)) (k : Nat) : Prop := Cond.codeWith y cc nL (some .int) hh ∈ gw ∧ Cond.initialized y.cls ∈ gw ∧ (y.cls ≠ "java/lang/invoke/MethodHandle" ∧ y.cls ≠ "java/lang/invoke/VarHandle" ∧ (parseMethodDescriptor y.desc).map (fun d => d.parameters.length) = some k)
section VZCW
variable {p : Program} {l : Launch} {e : Env} {R : Room} {s : State} {m : MethodId} {args : Array Value} {below : List Frame} {meth : Method} {c : Code} {D : va_G} {tys : List (ClassId × FieldType)} {A : Nat → Prop} {cc : ByteArray} {nL : Nat} {own : String} {rh : Nat → Nat} {rc : Nat → (Nat → Int32) → va_E} {n : Nat} {cells slots : Nat} {Q : State → Prop} {pc : Nat} {lv lv' : List (Nat × Value)} {st : List Value} {σ : St}
set_option maxHeartbeats 1000000 in
theorem v_callS_CW (X : Cx p s m args meth c D tys A cc nL own) {y : MethodName} {bytes : ByteArray} {nL' dp mc ms ix kA : Nat} {rest : List Value} {hh : List (Nat × Nat × Nat × Nat)} {r : Int32} {σ' : St} (As : List Value) (hC : CWI l D tys rh rc n y bytes nL' hh dp mc ms As σ r σ') (hm : MW y bytes nL' hh kA) (hst : Cond.static y ∈ gw) (hlk : Cond.methodLink own ix y ∈ gw) (hA : As.length = kA) (hR : (Rq dp mc ms).frames + 1 ≤ R.frames ∧ 8 + (nL' + 11) + (Rq dp mc ms).locals ≤ R.locals) (hrm : (rest.map fun v => v.category).sum ≤ 8) (hf : cells + mc ≤ R.cells ∧ slots + ms ≤ R.slots) (d : decode cc pc = .ok (.invokestatic ix, 3))
    (kk : Vz p l e R s m args below meth c D A nL rh rc n (cells + mc) (slots + ms) Q (pc + 3) lv (.int r :: rest) σ') : Vz p l e R s m args below meth c D A nL rh rc n cells slots Q pc lv (As.reverse ++ rest) σ := by
  intro H locs ls hP hD hS hl T hT Xs
  have hFc := vz_free X hD hS
  have hts := X.2.2.2.2.1
  have hlen : ∀ sig, parseMethodDescriptor y.desc = some sig → As.length = sig.parameters.length := by
    intro sig h
    have h2 := hm.2.2.2.2
    rw [h] at h2
    exact hA.trans (Option.some.inj h2).symm
  obtain ⟨mk, methM, cM, hnamed, hmethM, hcM, -, hlM, -, -, -, hsigM⟩ := Cond.codeWith_spec (hts _ hm.1)
  have hstatic : methM.isStatic = true := Cond.static_spec hnamed hmethM (hts _ hst)
  obtain ⟨kP, hkP, -⟩ := className_of_methodNamed hnamed
  have hinitP : kP.init = .initialized := Cond.initialized_spec (findClass_of_methodNamed hnamed) hkP (hts _ hm.2.1)
  obtain ⟨vm₁, X₁, hstep₁⟩ := Xs.invokestatic X.1 X.2.2.2.1 (hts _ hlk) hnamed hmethM hstatic hkP hinitP ⟨hm.2.2.1, hm.2.2.2.1⟩ (g := F0 m pc ls (As.reverse ++ rest)) rfl (argsL := As) (rest := rest) (hlen _ hsigM) rfl (by rw [X.2.1]; exact d)
  have hml : (T.setVm vm₁).vm.method? mk = some methM := by rw [X₁.warmed.alike.method?]; exact hmethM
  obtain ⟨o, s₂, hq, kr, kt⟩ := xcall (a := (As : List Value).toArray) (g := F0 m pc ls rest) (maxL := nL') (len := 3) X₁ (hC H.size) (fun w h => by
      rcases List.mem_cons.mp h with rfl | h
      · exact word_at X₁.warmed (good_of_word (List.mem_filter.mp hm.1).2) (hts _ hm.1)
      · exact word_at X₁.warmed (good_of_word (List.mem_filter.mp h).2) (hts _ h)) (fun mY cY g1 g2 => by cases Option.some.inj (g1.symm.trans hml); cases Option.some.inj (g2.symm.trans hcM); exact hlM) ⟨methM, cM, hml, hcM⟩
    (word_at X₁.warmed (good_of_word (List.mem_filter.mp hm.2.1).2) (hts _ hm.2.1)) hf.1 hf.2 hR.1 hR.2
    (Pz.blind _ _ _ _ ⟨rfl, by show T.heap.size = H.size; rw [hT], by show va_P D vwCl _ T.heap; rw [hT]; exact hP, va_K.moved X₁.warmed.alike X.2.2.2.2.2.1, Nz.warm X₁.warmed X.2.2.2.2.2.2.1, Sz.move X.2.2.2.2.2.2.2.2.2.1 X₁.warmed.alike (fun a9 h8 h9 => by show T.heap[a9]? = _; rw [hT]; exact hS.2.1 a9 h8 h9) hFc, hD.weaken (fun _ _ _ _ => trivial)⟩)
    rfl (hl.1.trans X.2.2.1.symm) (by rw [X.2.1]; exact d) (lv_room hrm) (X₁.named hnamed)
  have hH : ((T.setVm vm₁).calling (F0 m pc ls rest) mk (As : List Value).toArray).heap = H := hT
  have keep : ∀ (L : List Loc) (t : State), (∀ z ∈ L, va_A (wd rh rc n σ) H.size z.base) → va_F (va_A (wd rh rc n σ) H.size) ((T.setVm vm₁).calling (F0 m pc ls rest) mk (As : List Value).toArray) t → va_S A s.heap t.heap (locs ++ L) := by
    intro L t hL hF
    obtain ⟨hz, hk⟩ := hF
    rw [hH] at hz hk
    refine ⟨Nat.le_trans hS.1 hz, fun q h1 h2 => ?_, fun z hz2 => ?_⟩
    · rw [hk q (Nat.lt_of_lt_of_le h1 hS.1) (fun z => h2 (hFc q z))]
      exact hS.2.1 q h1 h2
    · rcases List.mem_append.mp hz2 with h | h
      · exact hS.2.2 z h
      · exact hFc _ (hL z h)
  rcases hq with ⟨h0, ho, ⟨L, hfe, hL⟩, ⟨hP1, hD1⟩, hF⟩ | ⟨h0, q, ce, L, ho, hce, hcv, hcl, hW2, hsm, hL, ⟨hP1, hD1⟩, hF⟩
  · obtain ⟨T', X', e1, e2, hst9⟩ := kr _ L mc ms ho hfe
    obtain ⟨t2, a1, b1⟩ := kk s₂.heap (locs ++ L) ls hP1 (hD1.weaken (fun _ _ _ h => hFc _ h)) (keep L s₂ hL hF) hl T' e1 X'
    exact ⟨t2, hstep₁ _ fun acts => by rw [doInvoke_state]; exact hst9.trans a1, b1⟩
  · exact absurd rfl h0
end VZCW
theorem exN1 : exN 1 = "java/lang/IllegalArgumentException" := by decide +kernel
theorem wcast_1 : Cond.castable "java/lang/IllegalArgumentException" "java/lang/IllegalArgumentException" ∈ nw := nw_of (by decide +kernel) rfl
theorem wcl_1 : Cond.classLink RL 13 "java/lang/IllegalArgumentException" ∈ gw := gw_of (by decide +kernel) rfl
theorem exN2 : exN 2 = "java/lang/IllegalStateException" := by decide +kernel
theorem wcast_2 : Cond.castable "java/lang/IllegalStateException" "java/lang/IllegalStateException" ∈ nw := nw_of (by decide +kernel) rfl
theorem wcl_2 : Cond.classLink RL 15 "java/lang/IllegalStateException" ∈ gw := gw_of (by decide +kernel) rfl
theorem exN3 : exN 3 = "java/lang/UnsupportedOperationException" := by decide +kernel
theorem wcast_3 : Cond.castable "java/lang/UnsupportedOperationException" "java/lang/UnsupportedOperationException" ∈ nw := nw_of (by decide +kernel) rfl
theorem wcl_3 : Cond.classLink RL 17 "java/lang/UnsupportedOperationException" ∈ gw := gw_of (by decide +kernel) rfl
theorem bad_k (x : Int32) : f_SM_refuseBadUnless x = 0 ∨ f_SM_refuseBadUnless x = 1 := by
  unfold f_SM_refuseBadUnless
  split
  · exact Or.inr rfl
  · exact Or.inl rfl
theorem now_k (x : Int32) : f_SM_refuseNowUnless x = 0 ∨ f_SM_refuseNowUnless x = 2 := by
  unfold f_SM_refuseNowUnless
  split
  · exact Or.inr rfl
  · exact Or.inl rfl
def k123 (k : Int32) : Prop := k = 0 ∨ k = 1 ∨ k = 2 ∨ k = 3
def k12 (k : Int32) : Prop := k = 0 ∨ k = 1 ∨ k = 2
def k01 (k : Int32) : Prop := k = 0 ∨ k = 1
def k02 (k : Int32) : Prop := k = 0 ∨ k = 2
theorem k123_ite {c : Prop} [Decidable c] {a b : Int32 × Int32 × St} (ha : k123 a.1) (hb : k123 b.1) : k123 (if c then a else b).1 := by
  split
  · exact ha
  · exact hb
theorem k123_0 (x : Int32) (s : St) : k123 ((0 : Int32), x, s).1 := Or.inl rfl
theorem k123_b (y x : Int32) (s : St) : k123 (f_SM_refuseBadUnless y, x, s).1 := by
  rcases bad_k y with h | h
  · exact Or.inl h
  · exact Or.inr (Or.inl h)
theorem k123_n (y x : Int32) (s : St) : k123 (f_SM_refuseNowUnless y, x, s).1 := by
  rcases now_k y with h | h
  · exact Or.inl h
  · exact Or.inr (Or.inr (Or.inl h))
theorem k12_ite {c : Prop} [Decidable c] {a b : Int32 × Int32 × St} (ha : k12 a.1) (hb : k12 b.1) : k12 (if c then a else b).1 := by
  split
  · exact ha
  · exact hb
theorem k12_0 (x : Int32) (s : St) : k12 ((0 : Int32), x, s).1 := Or.inl rfl
theorem k12_b (y x : Int32) (s : St) : k12 (f_SM_refuseBadUnless y, x, s).1 := by
  rcases bad_k y with h | h
  · exact Or.inl h
  · exact Or.inr (Or.inl h)
theorem k12_n (y x : Int32) (s : St) : k12 (f_SM_refuseNowUnless y, x, s).1 := by
  rcases now_k y with h | h
  · exact Or.inl h
  · exact Or.inr (Or.inr h)
theorem k01_ite {c : Prop} [Decidable c] {a b : Int32 × Int32 × St} (ha : k01 a.1) (hb : k01 b.1) : k01 (if c then a else b).1 := by
  split
  · exact ha
  · exact hb
theorem k01_0 (x : Int32) (s : St) : k01 ((0 : Int32), x, s).1 := Or.inl rfl
theorem k01_b (y x : Int32) (s : St) : k01 (f_SM_refuseBadUnless y, x, s).1 := by
  rcases bad_k y with h | h
  · exact Or.inl h
  · exact Or.inr h
theorem k02_ite {c : Prop} [Decidable c] {a b : Int32 × Int32 × St} (ha : k02 a.1) (hb : k02 b.1) : k02 (if c then a else b).1 := by
  split
  · exact ha
  · exact hb
theorem k02_0 (x : Int32) (s : St) : k02 ((0 : Int32), x, s).1 := Or.inl rfl
theorem k02_n (y x : Int32) (s : St) : k02 (f_SM_refuseNowUnless y, x, s).1 := by
  rcases now_k y with h | h
  · exact Or.inl h
  · exact Or.inr h
theorem k123_3 (x : Int32) (s : St) : k123 ((3 : Int32), x, s).1 := Or.inr (Or.inr (Or.inr rfl))
theorem kl_run (xa : Int32) : ∀ (k : Nat) (b i : Int32) (σ : St), (lp_SM_run_22 xa k b i σ).1 = 0 := by
  intro k
  induction k with
  | zero => intro b i σ; rfl
  | succ k ih =>
    intro b i σ
    simp only [lp_SM_run_22]
    split
    · rfl
    · split
      · exact ih _ _ _
      · exact ih _ _ _
theorem k12_run (xa : Int32) (k : Nat) (b i : Int32) (σ : St) : k12 (lp_SM_run_22 xa k b i σ).1 := Or.inl (kl_run xa k b i σ)
/-- what the law's wrapper of a call that answers a number leaves -/
def wo (F : Int32 × Int32 × St) : St := if F.1 = 0 then up F.2.2 iOUT (0 : Int32).toNatClampNeg F.2.1 else F.2.2
/-- the wrapper's answer where one kind alone is caught, and it isn't code 1 -/
def w01 (k : Int32) : Int32 := if k = 0 then 0 else 1
theorem mw_LA_region : MW yL_region cL_region 5 [(0, 7, 10, 13), (0, 7, 14, 15), (0, 7, 18, 17)] 4 := ⟨gw_of (by decide +kernel) rfl, gw_of (by decide +kernel) rfl, by decide +kernel, by decide +kernel, by decide +kernel⟩
theorem mw_LA_load : MW yL_load cL_load 4 [(0, 6, 9, 13), (0, 6, 12, 15)] 3 := ⟨gw_of (by decide +kernel) rfl, gw_of (by decide +kernel) rfl, by decide +kernel, by decide +kernel, by decide +kernel⟩
theorem mw_LA_policy : MW yL_policy cL_policy 4 [(0, 6, 9, 13), (0, 6, 12, 15)] 3 := ⟨gw_of (by decide +kernel) rfl, gw_of (by decide +kernel) rfl, by decide +kernel, by decide +kernel, by decide +kernel⟩
theorem mw_LA_window : MW yL_window cL_window 5 [(0, 10, 13, 13), (0, 10, 17, 15)] 4 := ⟨gw_of (by decide +kernel) rfl, gw_of (by decide +kernel) rfl, by decide +kernel, by decide +kernel, by decide +kernel⟩
theorem mw_LA_channel : MW yL_channel cL_channel 6 [(0, 9, 12, 13), (0, 9, 16, 15)] 5 := ⟨gw_of (by decide +kernel) rfl, gw_of (by decide +kernel) rfl, by decide +kernel, by decide +kernel, by decide +kernel⟩
theorem mw_LA_boot : MW yL_boot cL_boot 3 [(0, 8, 11, 15)] 2 := ⟨gw_of (by decide +kernel) rfl, gw_of (by decide +kernel) rfl, by decide +kernel, by decide +kernel, by decide +kernel⟩
theorem mw_LA_reset : MW yL_reset cL_reset 2 [(0, 4, 7, 15)] 1 := ⟨gw_of (by decide +kernel) rfl, gw_of (by decide +kernel) rfl, by decide +kernel, by decide +kernel, by decide +kernel⟩
theorem mw_LA_run : MW yL_run cL_run 4 [(0, 9, 12, 13), (0, 9, 15, 15)] 3 := ⟨gw_of (by decide +kernel) rfl, gw_of (by decide +kernel) rfl, by decide +kernel, by decide +kernel, by decide +kernel⟩
theorem mw_LA_quote : MW yL_quote cL_quote 4 [(0, 9, 12, 15)] 3 := ⟨gw_of (by decide +kernel) rfl, gw_of (by decide +kernel) rfl, by decide +kernel, by decide +kernel, by decide +kernel⟩
theorem mw_LA_register : MW yL_register cL_register 5 [(0, 10, 13, 13), (0, 10, 17, 15)] 4 := ⟨gw_of (by decide +kernel) rfl, gw_of (by decide +kernel) rfl, by decide +kernel, by decide +kernel, by decide +kernel⟩
theorem mw_LA_memory : MW yL_memory cL_memory 4 [(0, 9, 12, 13)] 3 := ⟨gw_of (by decide +kernel) rfl, gw_of (by decide +kernel) rfl, by decide +kernel, by decide +kernel, by decide +kernel⟩
theorem mw_LA_told : MW yL_told cL_told 5 [(0, 10, 13, 13)] 4 := ⟨gw_of (by decide +kernel) rfl, gw_of (by decide +kernel) rfl, by decide +kernel, by decide +kernel, by decide +kernel⟩
theorem mw_LA_object : MW yL_object cL_object 5 [(0, 10, 13, 13)] 4 := ⟨gw_of (by decide +kernel) rfl, gw_of (by decide +kernel) rfl, by decide +kernel, by decide +kernel, by decide +kernel⟩
