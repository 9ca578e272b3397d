theorem updL_up (f : Nat → Int32) (k : Nat) (x : Int32) : vp_updL (fun j => (f j).toInt64) k x.toInt64 = fun j => (upd f k x j).toInt64 := by
  funext j
  unfold vp_updL upd
  split <;> rfl
section VZLONG
variable {p : Program} {l : Launch} {e : Env} {R : Room} {s : State} {m : MethodId} {args : Array Value} {below : List Frame} {meth : Method} {c : Code} {D : va_G} {tys : List (ClassId × FieldType)} {A : Nat → Prop} {cc : ByteArray} {nL : Nat} {own : String} {rh : Nat → Nat} {rc : Nat → (Nat → Int32) → va_E} {n : Nat} {cells slots : Nat} {Q : State → Prop} {pc : Nat} {lv lv' : List (Nat × Value)} {st : List Value} {σ : St}
theorem v_i2l (X : Cx p s m args meth c D tys A cc nL own) {x : Int32} (d : decode cc pc = .ok (.i2l, 1)) (kk : Vz p l e R s m args below meth c D A nL rh rc n cells slots Q (pc + 1) lv (.long x.toInt64 :: st) σ) : Vz p l e R s m args below meth c D A nL rh rc n cells slots Q pc lv (.int x :: st) σ :=
  fun H locs ls hP hD hS hl => lv_i2l X.1 X.2.1 d rfl (kk H locs ls hP hD hS hl)
theorem v_lald (X : Cx p s m args meth c D tys A cc nL own) {i N t0 : Nat} {cA : ClassId} {j : Int32} (hi : i < n) (hr : ∀ f, rc i f = .inl (cA, N, .inr (.inl (fun j => (f j).toInt64)))) (ht : tys[t0]? = some (cA, .long)) (hin : vp_in j N) (d : decode cc pc = .ok (.laload, 1)) (kk : Vz p l e R s m args below meth c D A nL rh rc n cells slots Q (pc + 1) lv (.long (σ i j.toNatClampNeg).toInt64 :: st) σ) : Vz p l e R s m args below meth c D A nL rh rc n cells slots Q pc lv (.int j :: .ref (rh i) :: st) σ :=
  fun H locs ls hP hD hS hl => va_lald (f := fun j => (σ i j).toInt64) X.1 X.2.1 X.2.2.2.2.2.1 hP i t0 (by rw [wd_at hi, hr]) ht hin d (kk H locs ls hP hD hS hl)
theorem v_last (X : Cx p s m args meth c D tys A cc nL own) {i N t0 : Nat} {cA : ClassId} {j x : Int32} (hi : i < n) (hr : ∀ f, rc i f = .inl (cA, N, .inr (.inl (fun j => (f j).toInt64)))) (ht : tys[t0]? = some (cA, .long)) (hin : vp_in j N) (d : decode cc pc = .ok (.lastore, 1)) (kk : Vz p l e R s m args below meth c D A nL rh rc n cells slots Q (pc + 1) lv st (up σ i j.toNatClampNeg x)) : Vz p l e R s m args below meth c D A nL rh rc n cells slots Q pc lv (.long x.toInt64 :: .int j :: .ref (rh i) :: st) σ := by
  intro H locs ls hP hD hS hl
  refine va_last (f := fun j => (σ i j).toInt64) X.1 X.2.1 X.2.2.2.2.2.1 hP hD hS i t0 (by rw [wd_at hi, hr]) ht hin d (fun H1 locs1 hP1 hD1 hS1 => ?_)
  rw [updL_up, ← hr, wd_set] at hP1 hD1
  exact kk H1 locs1 ls hP1 hD1 hS1 hl
theorem toI64_ne {x y : Int32} (h : ¬ x = y) : ¬ x.toInt64 = y.toInt64 := by
  intro e
  apply h
  have h1 := congrArg Int64.toInt e
  rw [Int32.toInt_toInt64, Int32.toInt_toInt64] at h1
  exact Int32.toInt_inj.mp h1
end VZLONG
theorem lt_OUT : iOUT < NW := by decide
theorem sh_OUT {rh : Nat → Nat} {cA : Nat → ClassId} : ∀ f, rcW rh cA iOUT f = .inl (cA 4, 1, .inr (.inl (fun j => (f j).toInt64))) := fun _ => rfl
