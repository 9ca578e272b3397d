section CLS
variable {l : Launch} {D : va_G} {rh : Nat → Nat} {cA : Nat → ClassId}
def lp_PT_measured_14 (p : Nat) : Nat → Int32 → Int32 → St → Int32
  | 0, _, _, _ => 0
  | k9 + 1, m1, i2, σ => (if (σ (iP p) 2) ≤ i2 then m1 else (lp_PT_measured_14 p k9 (f_SM_mix m1 (σ (iI p) (i2).toNatClampNeg)) (i2 + 1) σ))
set_option maxHeartbeats 4000000 in
set_option maxRecDepth 100000 in
theorem lc_PT_measured_14 {p : Nat} (hp : p < 4) {p9 : Program} {e : Env} {s : State} {m : MethodId} {args : Array Value} {below : List Frame} {meth : Method} {c : Code} {A : Nat → Prop} {Q : State → Prop} (X : Cx p9 s m args meth c D (tyL cA) A cX3_measured 3 yX3_measured.cls) : ∀ (k9 : Nat) (m1 : Int32) (i2 : Int32) (σ : St), (hI : Ic σ) → (hi : 0 ≤ i2.toInt ∧ i2.toInt ≤ (σ (iP p) 2).toInt) → ((σ (iP p) 2).toInt - i2.toInt < (k9 : Int)) → (∀ (pc : Nat) (lv : List (Nat × Value)), decode cX3_measured pc = .ok (.ireturn, 1) → Vz p9 l e (Rz 1) s m args below meth c D A 3 rh (rcW rh cA) NW 0 0 Q pc lv [.int (lp_PT_measured_14 p k9 m1 i2 σ)] σ) → Vz p9 l e (Rz 1) s m args below meth c D A 3 rh (rcW rh cA) NW 0 0 Q 14 [(0, .ref (rh (iP p))), (1, .int m1), (2, .int i2)] [] σ := by
  intro k9
  induction k9 with
  | zero =>
    intro m1 i2 σ hI hi hmu hend
    exact absurd hmu (by omega)
  | succ k9 ih =>
    intro m1 i2 σ hI hi hmu hend
    refine v_iload_n X 2 dX3_measured_14 rfl rfl ?_
    refine v_aload_n X 0 dX3_measured_15 rfl rfl ?_
    refine v_getI (i := (iP p)) (k := 2) X (lt_PT hp) (sh_PT hp) rfl in_PT (by decide) wf_PT_18 rfl (fun _ => rfl) dX3_measured_16 ?_
    refine v_icmp_ge X 39 dX3_measured_19 (by decide) (fun h19 => ?_) (fun h19 => ?_)
    ·
      refine v_iload_n X 1 dX3_measured_39 rfl rfl ?_
      have e9 : lp_PT_measured_14 p (k9 + 1) m1 i2 σ = m1 := by simp only [lp_PT_measured_14, if_pos h19]
      exact v_endI hend dX3_measured_40 e9 rfl
    ·
      refine v_iload_n X 1 dX3_measured_22 rfl rfl ?_
      refine v_aload_n X 0 dX3_measured_23 rfl rfl ?_
      refine v_getR (j := (iI p)) (i := (iP p)) (k := 9) X (lt_PT hp) (sh_PT hp) rfl in_PT (by decide) wf_PT_41 rfl (fun _ => rfl) dX3_measured_24 ?_
      refine v_iload_n X 2 dX3_measured_27 rfl rfl ?_
      have hv28 : vp_in i2 32 := (vin_mk hi.1 (by have h9 := (hI.rg hp).2.2.1; have h8 := h19; rw [ile] at h8; omega))
      refine v_iald (i := (iI p)) (t0 := 0) X (lt_IM hp) (sh_IM hp) rfl hv28 dX3_measured_28 ?_
      refine v_callSN_CI (rest := []) X [.int m1, .int (σ (iI p) (i2).toNatClampNeg)] (c_SM_mix m1 (σ (iI p) (i2).toNatClampNeg) σ ) mf_SM_mix ws_SM_mix wn_PT_69 rfl ⟨by decide, by decide⟩ (Nat.le_of_ble_eq_true rfl) ⟨by decide, by decide⟩ dX3_measured_29 ?_
      refine v_istore_n (lv' := [(1, .int (f_SM_mix m1 (σ (iI p) (i2).toNatClampNeg))), (0, .ref (rh (iP p))), (2, .int i2)]) X dX3_measured_32 rfl (by decide) rfl ?_
      refine v_iinc (v := (i2 + 1)) (lv' := [(2, .int (i2 + 1)), (1, .int (f_SM_mix m1 (σ (iI p) (i2).toNatClampNeg))), (0, .ref (rh (iP p)))]) X 2 dX3_measured_33 rfl rfl (by decide) rfl ?_
      refine v_goto (tgt := 14) X dX3_measured_36 (by decide) ?_
      have e9 : lp_PT_measured_14 p (k9 + 1) m1 i2 σ = lp_PT_measured_14 p k9 (f_SM_mix m1 (σ (iI p) (i2).toNatClampNeg)) (i2 + 1) σ := by simp only [lp_PT_measured_14, if_neg h19]
      rw [e9] at hend
      refine v_lv (lv' := [(0, .ref (rh (iP p))), (1, .int (f_SM_mix m1 (σ (iI p) (i2).toNatClampNeg))), (2, .int (i2 + 1))]) [2, 1, 0] rfl ?_
      exact ih (f_SM_mix m1 (σ (iI p) (i2).toNatClampNeg)) (i2 + 1) σ hI ⟨by have h9 := i_succ h19; omega, by have h9 := i_succ h19; have h8 := h19; rw [ile] at h8; omega⟩ (by have h9 := i_succ h19; omega) hend
def f_PT_measured (p : Nat) (σ : St) : Int32 :=
  (lp_PT_measured_14 p 33 (f_SM_mix (σ (iP p) 1) (σ (iP p) 2)) 0 σ)
set_option maxHeartbeats 4000000 in
set_option maxRecDepth 100000 in
theorem c_PT_measured {p : Nat} (hp : p < 4) (σ : St) (hI : Ic σ) : CI l D (tyL cA) rh (rcW rh cA) NW yX3_measured cX3_measured 3 .int 1 [.ref (rh (iP p))] σ (f_PT_measured p σ) σ := by
  refine CI.of rfl (Nat.le_of_ble_eq_true rfl) rfl ?_
  intro p9 e s m args below meth c A Q X hend
  refine v_lv (lv' := [(0, .ref (rh (iP p)))]) [0] rfl ?_
  refine v_aload_n X 0 dX3_measured_0 rfl rfl ?_
  refine v_getI (i := (iP p)) (k := 1) X (lt_PT hp) (sh_PT hp) rfl in_PT (by decide) wf_PT_15 rfl (fun _ => rfl) dX3_measured_1 ?_
  refine v_aload_n X 0 dX3_measured_4 rfl rfl ?_
  refine v_getI (i := (iP p)) (k := 2) X (lt_PT hp) (sh_PT hp) rfl in_PT (by decide) wf_PT_18 rfl (fun _ => rfl) dX3_measured_5 ?_
  refine v_callSN_CI (rest := []) X [.int (σ (iP p) 1), .int (σ (iP p) 2)] (c_SM_mix (σ (iP p) 1) (σ (iP p) 2) σ ) mf_SM_mix ws_SM_mix wn_PT_69 rfl ⟨by decide, by decide⟩ (Nat.le_of_ble_eq_true rfl) ⟨by decide, by decide⟩ dX3_measured_8 ?_
  refine v_istore_n (lv' := [(1, .int (f_SM_mix (σ (iP p) 1) (σ (iP p) 2))), (0, .ref (rh (iP p)))]) X dX3_measured_11 rfl (by decide) rfl ?_
  refine v_iconst (v := 0) X dX3_measured_12 (by decide) ?_
  refine v_istore_n (lv' := [(2, .int 0), (1, .int (f_SM_mix (σ (iP p) 1) (σ (iP p) 2))), (0, .ref (rh (iP p)))]) X dX3_measured_13 rfl (by decide) rfl ?_
  have e9 : f_PT_measured p σ = lp_PT_measured_14 p 33 (f_SM_mix (σ (iP p) 1) (σ (iP p) 2)) 0 σ := by simp only [f_PT_measured]
  rw [e9] at hend
  refine v_lv (lv' := [(0, .ref (rh (iP p))), (1, .int (f_SM_mix (σ (iP p) 1) (σ (iP p) 2))), (2, .int 0)]) [2, 1, 0] rfl ?_
  exact lc_PT_measured_14 hp  X 33 (f_SM_mix (σ (iP p) 1) (σ (iP p) 2)) 0 σ hI ⟨by decide, by have h9 := (hI.rg hp).2.1; have z : (0 : Int32).toInt = 0 := (by decide); omega⟩ (by have h9 := (hI.rg hp).2.2.1; have z : (0 : Int32).toInt = 0 := (by decide); omega) hend
def lp_PT_clearRegisters_7 (p : Nat) : Nat → Int32 → St → St
  | 0, _, σ => σ
  | k9 + 1, i1, σ => (if 16 ≤ i1 then σ else (lp_PT_clearRegisters_7 p k9 (i1 + 1) (up σ (iR p) (i1).toNatClampNeg 0)))
set_option maxHeartbeats 4000000 in
set_option maxRecDepth 100000 in
theorem lc_PT_clearRegisters_7 {p : Nat} (hp : p < 4) {p9 : Program} {e : Env} {s : State} {m : MethodId} {args : Array Value} {below : List Frame} {meth : Method} {c : Code} {A : Nat → Prop} {Q : State → Prop} (X : Cx p9 s m args meth c D (tyL cA) A cX3_clearRegisters 2 yX3_clearRegisters.cls) : ∀ (k9 : Nat) (i1 : Int32) (σ : St), (hi : 0 ≤ i1.toInt ∧ i1.toInt ≤ 16) → (16 - i1.toInt < (k9 : Int)) → (∀ (pc : Nat) (lv : List (Nat × Value)), decode cX3_clearRegisters pc = .ok (.return_, 1) → Vz p9 l e (Rz 0) s m args below meth c D A 2 rh (rcW rh cA) NW 0 0 Q pc lv [] (lp_PT_clearRegisters_7 p k9 i1 σ)) → Vz p9 l e (Rz 0) s m args below meth c D A 2 rh (rcW rh cA) NW 0 0 Q 7 [(0, .ref (rh (iP p))), (1, .int i1)] [] σ := by
  intro k9
  induction k9 with
  | zero =>
    intro i1 σ hi hmu hend
    exact absurd hmu (by omega)
  | succ k9 ih =>
    intro i1 σ hi hmu hend
    refine v_iload_n X 1 dX3_clearRegisters_7 rfl rfl ?_
    refine v_bipush (v := 16) X dX3_clearRegisters_8 (by decide) ?_
    refine v_icmp_ge X 26 dX3_clearRegisters_10 (by decide) (fun h10 => ?_) (fun h10 => ?_)
    ·
      have e9 : lp_PT_clearRegisters_7 p (k9 + 1) i1 σ = σ := by simp only [lp_PT_clearRegisters_7, if_pos h10]
      exact v_endV hend dX3_clearRegisters_26 e9
    ·
      refine v_aload_n X 0 dX3_clearRegisters_13 rfl rfl ?_
      refine v_getR (j := (iR p)) (i := (iP p)) (k := 8) X (lt_PT hp) (sh_PT hp) rfl in_PT (by decide) wf_PT_37 rfl (fun _ => rfl) dX3_clearRegisters_14 ?_
      refine v_iload_n X 1 dX3_clearRegisters_17 rfl rfl ?_
      refine v_iconst (v := 0) X dX3_clearRegisters_18 (by decide) ?_
      have hv19 : vp_in i1 16 := (vin_mk hi.1 (nle (by decide) h10))
      refine v_iast (i := (iR p)) (t0 := 0) X (lt_RG hp) (sh_RG hp) rfl hv19 dX3_clearRegisters_19 ?_
      generalize hg19 : (up σ (iR p) (i1).toNatClampNeg 0) = g19
      refine v_iinc (v := (i1 + 1)) (lv' := [(1, .int (i1 + 1)), (0, .ref (rh (iP p)))]) X 1 dX3_clearRegisters_20 rfl rfl (by decide) rfl ?_
      refine v_goto (tgt := 7) X dX3_clearRegisters_23 (by decide) ?_
      have e9 : lp_PT_clearRegisters_7 p (k9 + 1) i1 σ = lp_PT_clearRegisters_7 p k9 (i1 + 1) g19 := by subst hg19; simp only [lp_PT_clearRegisters_7, if_neg h10]
      rw [e9] at hend
      refine v_lv (lv' := [(0, .ref (rh (iP p))), (1, .int (i1 + 1))]) [1, 0] rfl ?_
      exact ih (i1 + 1) g19 ⟨by have h9 := i_succ h10; omega, by have h9 := i_succ h10; have h8 := h10; rw [ile] at h8; have z : (16 : Int32).toInt = 16 := (by decide); omega⟩ (by have h9 := i_succ h10; omega) hend
def f_PT_clearRegisters (p : Nat) (σ : St) : St :=
  (lp_PT_clearRegisters_7 p 17 0 (up σ (iP p) 5 0))
set_option maxHeartbeats 4000000 in
set_option maxRecDepth 100000 in
theorem c_PT_clearRegisters {p : Nat} (hp : p < 4) (σ : St) : CV l D (tyL cA) rh (rcW rh cA) NW yX3_clearRegisters cX3_clearRegisters 2 0 [.ref (rh (iP p))] σ (f_PT_clearRegisters p σ) := by
  refine CV.of rfl (Nat.le_of_ble_eq_true rfl) ?_
  intro p9 e s m args below meth c A Q X hend
  refine v_lv (lv' := [(0, .ref (rh (iP p)))]) [0] rfl ?_
  refine v_aload_n X 0 dX3_clearRegisters_0 rfl rfl ?_
  refine v_iconst (v := 0) X dX3_clearRegisters_1 (by decide) ?_
  refine v_put (i := (iP p)) (k := 5) (x := 0) (ty := .int) X (lt_PT hp) (sh_PT hp) rfl in_PT (by decide) tyX3 tyX3_ok nX3 wf_PT_27 rfl rfl rfl rfl rfl (fun _ => Nat.le_of_ble_eq_true rfl) (fun _ _ => rfl) dX3_clearRegisters_2 ?_
  generalize hg2 : (up σ (iP p) 5 0) = g2
  refine v_iconst (v := 0) X dX3_clearRegisters_5 (by decide) ?_
  refine v_istore_n (lv' := [(1, .int 0), (0, .ref (rh (iP p)))]) X dX3_clearRegisters_6 rfl (by decide) rfl ?_
  have e9 : f_PT_clearRegisters p σ = lp_PT_clearRegisters_7 p 17 0 g2 := by subst hg2; simp only [f_PT_clearRegisters]
  rw [e9] at hend
  refine v_lv (lv' := [(0, .ref (rh (iP p))), (1, .int 0)]) [1, 0] rfl ?_
  exact lc_PT_clearRegisters_7 hp  X 17 0 g2 ⟨by decide, by decide⟩ (by decide) hend
theorem Il_PT_clearRegisters (p : Nat) : ∀ (k : Nat) (i : Int32) (σ : St), Ic σ → Ic (lp_PT_clearRegisters_7 p k i σ) := by
  intro k
  induction k with
  | zero => intro i σ h; exact h
  | succ k ih =>
    intro i σ h
    simp only [lp_PT_clearRegisters_7]
    exact ic_ite (fun _ => h) (fun _ => ih _ _ (Ic.upRG h))
theorem I_PT_clearRegisters (p : Nat) {σ : St} (hI : Ic σ) : Ic (f_PT_clearRegisters p σ) := by
  unfold f_PT_clearRegisters
  exact Il_PT_clearRegisters p _ _ _ (Ic.upPT hI (by decide))
def f_PT_restart (p : Nat) (σ : St) : St :=
  (up (f_PT_clearRegisters p (upr (up σ (iP p) 12 ((σ (iP p) 12) + 1)) iWO (va_cpy ((up σ (iP p) 12 ((σ (iP p) 12) + 1)) (iI p)) ((up σ (iP p) 12 ((σ (iP p) 12) + 1)) iWO) (0 : Int32).toNatClampNeg (((up σ (iP p) 12 ((σ (iP p) 12) + 1)) (iP p) 1) : Int32).toNatClampNeg (((up σ (iP p) 12 ((σ (iP p) 12) + 1)) (iP p) 2) : Int32).toNatClampNeg))) (iP p) 7 1)
set_option maxHeartbeats 4000000 in
set_option maxRecDepth 100000 in
theorem c_PT_restart {p : Nat} (hp : p < 4) (σ : St) (hI : Ic σ) : CV l D (tyL cA) rh (rcW rh cA) NW yX3_restart cX3_restart 2 1 [.ref (rh (iP p)), .ref (rh iWO)] σ (f_PT_restart p σ) := by
  refine CV.of rfl (Nat.le_of_ble_eq_true rfl) ?_
  intro p9 e s m args below meth c A Q X hend
  refine v_lv (lv' := [(0, .ref (rh (iP p))), (1, .ref (rh iWO))]) [0, 1] rfl ?_
  refine v_aload_n X 0 dX3_restart_0 rfl rfl ?_
  refine v_dup X dX3_restart_1 rfl ?_
  refine v_getI (i := (iP p)) (k := 12) X (lt_PT hp) (sh_PT hp) rfl in_PT (by decide) wf_PT_50 rfl (fun _ => rfl) dX3_restart_2 ?_
  refine v_iconst (v := 1) X dX3_restart_5 (by decide) ?_
  refine v_iadd X dX3_restart_6 ?_
  refine v_put (i := (iP p)) (k := 12) (x := ((σ (iP p) 12) + 1)) (ty := .int) X (lt_PT hp) (sh_PT hp) rfl in_PT (by decide) tyX3 tyX3_ok nX3 wf_PT_50 rfl rfl rfl rfl rfl (fun _ => Nat.le_of_ble_eq_true rfl) (fun _ _ => rfl) dX3_restart_7 ?_
  generalize hg7 : (up σ (iP p) 12 ((σ (iP p) 12) + 1)) = g7
  have hI7 : Ic g7 := by rw [← hg7]; exact (Ic.upPT hI (by decide))
  refine v_aload_n X 0 dX3_restart_10 rfl rfl ?_
  refine v_getR (j := (iI p)) (i := (iP p)) (k := 9) X (lt_PT hp) (sh_PT hp) rfl in_PT (by decide) wf_PT_41 rfl (fun _ => rfl) dX3_restart_11 ?_
  refine v_iconst (v := 0) X dX3_restart_14 (by decide) ?_
  refine v_aload_n X 1 dX3_restart_15 rfl rfl ?_
  refine v_aload_n X 0 dX3_restart_16 rfl rfl ?_
  refine v_getI (i := (iP p)) (k := 1) X (lt_PT hp) (sh_PT hp) rfl in_PT (by decide) wf_PT_15 rfl (fun _ => rfl) dX3_restart_17 ?_
  refine v_aload_n X 0 dX3_restart_20 rfl rfl ?_
  refine v_getI (i := (iP p)) (k := 2) X (lt_PT hp) (sh_PT hp) rfl in_PT (by decide) wf_PT_18 rfl (fun _ => rfl) dX3_restart_21 ?_
  refine v_copy (i1 := (iI p)) (i2 := iWO) (t0 := 0) X (lt_IM hp) (sh_IM hp) (lt_WO ) (sh_WO ) rfl wm_PT_59 wac_n wac_s wac_i (by decide) (nlt0 (Ic.rg hI7 hp).1) (nlt0 (Ic.rg hI7 hp).2.1) (cp_a (Ic.rg hI7 hp).2.1 (Ic.rg hI7 hp).2.2.1) (cp_b (Ic.rg hI7 hp).1 (Ic.rg hI7 hp).2.1 (Ic.rg hI7 hp).2.2.2) (Nat.le_of_ble_eq_true rfl) (by decide) dX3_restart_24 ?_
  generalize hg24 : (upr g7 iWO (va_cpy (g7 (iI p)) (g7 iWO) (0 : Int32).toNatClampNeg ((g7 (iP p) 1) : Int32).toNatClampNeg ((g7 (iP p) 2) : Int32).toNatClampNeg)) = g24
  have hI24 : Ic g24 := by rw [← hg24]; exact (Ic.uprWO hI7)
  refine v_aload_n X 0 dX3_restart_27 rfl rfl ?_
  refine v_callV_CV (rest := []) X [] (c_PT_clearRegisters hp g24 ) mf_PT_clearRegisters wi_PT_clearRegisters wl_PT_clearRegisters (lt_PT hp) (sh_PT hp) rfl wm_PT_56 rfl ⟨by decide, by decide⟩ (Nat.le_of_ble_eq_true rfl) ⟨by decide, by decide⟩ dX3_restart_28 ?_
  generalize hg28 : (f_PT_clearRegisters p g24) = g28
  have hI28 : Ic g28 := by rw [← hg28]; exact (I_PT_clearRegisters p hI24)
  refine v_aload_n X 0 dX3_restart_31 rfl rfl ?_
  refine v_iconst (v := 1) X dX3_restart_32 (by decide) ?_
  refine v_put (i := (iP p)) (k := 7) (x := 1) (ty := .boolean) X (lt_PT hp) (sh_PT hp) rfl in_PT (by decide) tyX3 tyX3_ok nX3 wf_PT_34 rfl rfl rfl (zN (Or.inr rfl)) (zF (Or.inr rfl)) (fun _ => Nat.le_of_ble_eq_true rfl) (fun _ _ => rfl) dX3_restart_33 ?_
  generalize hg33 : (up g28 (iP p) 7 1) = g33
  have hI33 : Ic g33 := by rw [← hg33]; exact (Ic.upPT hI28 (by decide))
  have e9 : f_PT_restart p σ = g33 := by subst hg7; subst hg24; subst hg28; subst hg33; simp only [f_PT_restart]
  exact v_endV hend dX3_restart_36 e9
theorem I_PT_restart (p : Nat) {σ : St} (hI : Ic σ) : Ic (f_PT_restart p σ) := by
  unfold f_PT_restart
  exact (Ic.upPT (I_PT_clearRegisters p (Ic.uprWO (Ic.upPT hI (by decide)))) (by decide))
def f_PT_suffer (p : Nat) (xa : Int32) (σ : St) : St :=
  (if ((up (up σ (iP p) 10 ((σ (iP p) 10) + 1)) (iP p) 11 xa) (iP p) 3) = 2 then (up (up (up σ (iP p) 10 ((σ (iP p) 10) + 1)) (iP p) 11 xa) (iP p) 5 (((up (up σ (iP p) 10 ((σ (iP p) 10) + 1)) (iP p) 11 xa) (iP p) 5) + 4)) else (if ((up (up σ (iP p) 10 ((σ (iP p) 10) + 1)) (iP p) 11 xa) (iP p) 3) = 1 then (if 3 ≤ ((up (up σ (iP p) 10 ((σ (iP p) 10) + 1)) (iP p) 11 xa) (iP p) 12) then (up (up (up σ (iP p) 10 ((σ (iP p) 10) + 1)) (iP p) 11 xa) (iP p) 6 0) else (f_PT_restart p (up (up σ (iP p) 10 ((σ (iP p) 10) + 1)) (iP p) 11 xa))) else (up (up (up σ (iP p) 10 ((σ (iP p) 10) + 1)) (iP p) 11 xa) (iP p) 6 0)))
set_option maxHeartbeats 4000000 in
set_option maxRecDepth 100000 in
theorem c_PT_suffer {p : Nat} (hp : p < 4) (xa : Int32) (σ : St) (hI : Ic σ) : CV l D (tyL cA) rh (rcW rh cA) NW yX3_suffer cX3_suffer 3 2 [.ref (rh (iP p)), .int xa, .ref (rh iWO)] σ (f_PT_suffer p xa σ) := by
  refine CV.of rfl (Nat.le_of_ble_eq_true rfl) ?_
  intro p9 e s m args below meth c A Q X hend
  refine v_lv (lv' := [(0, .ref (rh (iP p))), (1, .int xa), (2, .ref (rh iWO))]) [0, 1, 2] rfl ?_
  refine v_aload_n X 0 dX3_suffer_0 rfl rfl ?_
  refine v_dup X dX3_suffer_1 rfl ?_
  refine v_getI (i := (iP p)) (k := 10) X (lt_PT hp) (sh_PT hp) rfl in_PT (by decide) wf_PT_44 rfl (fun _ => rfl) dX3_suffer_2 ?_
  refine v_iconst (v := 1) X dX3_suffer_5 (by decide) ?_
  refine v_iadd X dX3_suffer_6 ?_
  refine v_put (i := (iP p)) (k := 10) (x := ((σ (iP p) 10) + 1)) (ty := .int) X (lt_PT hp) (sh_PT hp) rfl in_PT (by decide) tyX3 tyX3_ok nX3 wf_PT_44 rfl rfl rfl rfl rfl (fun _ => Nat.le_of_ble_eq_true rfl) (fun _ _ => rfl) dX3_suffer_7 ?_
  generalize hg7 : (up σ (iP p) 10 ((σ (iP p) 10) + 1)) = g7
  have hI7 : Ic g7 := by rw [← hg7]; exact (Ic.upPT hI (by decide))
  refine v_aload_n X 0 dX3_suffer_10 rfl rfl ?_
  refine v_iload_n X 1 dX3_suffer_11 rfl rfl ?_
  refine v_put (i := (iP p)) (k := 11) (x := xa) (ty := .int) X (lt_PT hp) (sh_PT hp) rfl in_PT (by decide) tyX3 tyX3_ok nX3 wf_PT_47 rfl rfl rfl rfl rfl (fun _ => Nat.le_of_ble_eq_true rfl) (fun _ _ => rfl) dX3_suffer_12 ?_
  generalize hg12 : (up g7 (iP p) 11 xa) = g12
  have hI12 : Ic g12 := by rw [← hg12]; exact (Ic.upPT hI7 (by decide))
  refine v_aload_n X 0 dX3_suffer_15 rfl rfl ?_
  refine v_getI (i := (iP p)) (k := 3) X (lt_PT hp) (sh_PT hp) rfl in_PT (by decide) wf_PT_21 rfl (fun _ => rfl) dX3_suffer_16 ?_
  refine v_iconst (v := 2) X dX3_suffer_19 (by decide) ?_
  refine v_icmp_ne X 36 dX3_suffer_20 (by decide) (fun h20 => ?_) (fun h20 => ?_)
  ·
    refine v_aload_n X 0 dX3_suffer_36 rfl rfl ?_
    refine v_getI (i := (iP p)) (k := 3) X (lt_PT hp) (sh_PT hp) rfl in_PT (by decide) wf_PT_21 rfl (fun _ => rfl) dX3_suffer_37 ?_
    refine v_iconst (v := 1) X dX3_suffer_40 (by decide) ?_
    refine v_icmp_ne X 60 dX3_suffer_41 (by decide) (fun h41 => ?_) (fun h41 => ?_)
    ·
      refine v_aload_n X 0 dX3_suffer_60 rfl rfl ?_
      refine v_iconst (v := 0) X dX3_suffer_61 (by decide) ?_
      refine v_put (i := (iP p)) (k := 6) (x := 0) (ty := .boolean) X (lt_PT hp) (sh_PT hp) rfl in_PT (by decide) tyX3 tyX3_ok nX3 wf_PT_30 rfl rfl rfl (zN (Or.inl rfl)) (zF (Or.inl rfl)) (fun _ => Nat.le_of_ble_eq_true rfl) (fun _ _ => rfl) dX3_suffer_62 ?_
      generalize hg62 : (up g12 (iP p) 6 0) = g62
      have hI62 : Ic g62 := by rw [← hg62]; exact (Ic.upPT hI12 (by decide))
      have e9 : f_PT_suffer p xa σ = g62 := by subst hg7; subst hg12; subst hg62; simp only [f_PT_suffer, if_neg h20, if_neg h41]
      exact v_endV hend dX3_suffer_65 e9
    ·
      refine v_aload_n X 0 dX3_suffer_44 rfl rfl ?_
      refine v_getI (i := (iP p)) (k := 12) X (lt_PT hp) (sh_PT hp) rfl in_PT (by decide) wf_PT_50 rfl (fun _ => rfl) dX3_suffer_45 ?_
      refine v_iconst (v := 3) X dX3_suffer_48 (by decide) ?_
      refine v_icmp_ge X 60 dX3_suffer_49 (by decide) (fun h49 => ?_) (fun h49 => ?_)
      ·
        refine v_aload_n X 0 dX3_suffer_60 rfl rfl ?_
        refine v_iconst (v := 0) X dX3_suffer_61 (by decide) ?_
        refine v_put (i := (iP p)) (k := 6) (x := 0) (ty := .boolean) X (lt_PT hp) (sh_PT hp) rfl in_PT (by decide) tyX3 tyX3_ok nX3 wf_PT_30 rfl rfl rfl (zN (Or.inl rfl)) (zF (Or.inl rfl)) (fun _ => Nat.le_of_ble_eq_true rfl) (fun _ _ => rfl) dX3_suffer_62 ?_
        generalize hg62 : (up g12 (iP p) 6 0) = g62
        have hI62 : Ic g62 := by rw [← hg62]; exact (Ic.upPT hI12 (by decide))
        have e9 : f_PT_suffer p xa σ = g62 := by subst hg7; subst hg12; subst hg62; simp only [f_PT_suffer, if_neg h20, if_pos h41, if_pos h49]
        exact v_endV hend dX3_suffer_65 e9
      ·
        refine v_aload_n X 0 dX3_suffer_52 rfl rfl ?_
        refine v_aload_n X 2 dX3_suffer_53 rfl rfl ?_
        refine v_callV_CV (rest := []) X [.ref (rh iWO)] (c_PT_restart hp g12 hI12) mf_PT_restart wi_PT_restart wl_PT_restart (lt_PT hp) (sh_PT hp) rfl wm_PT_77 rfl ⟨by decide, by decide⟩ (Nat.le_of_ble_eq_true rfl) ⟨by decide, by decide⟩ dX3_suffer_54 ?_
        generalize hg54 : (f_PT_restart p g12) = g54
        have hI54 : Ic g54 := by rw [← hg54]; exact (I_PT_restart p hI12)
        refine v_goto (tgt := 65) X dX3_suffer_57 (by decide) ?_
        have e9 : f_PT_suffer p xa σ = g54 := by subst hg7; subst hg12; subst hg54; simp only [f_PT_suffer, if_neg h20, if_pos h41, if_neg h49]
        exact v_endV hend dX3_suffer_65 e9
  ·
    refine v_aload_n X 0 dX3_suffer_23 rfl rfl ?_
    refine v_dup X dX3_suffer_24 rfl ?_
    refine v_getI (i := (iP p)) (k := 5) X (lt_PT hp) (sh_PT hp) rfl in_PT (by decide) wf_PT_27 rfl (fun _ => rfl) dX3_suffer_25 ?_
    refine v_iconst (v := 4) X dX3_suffer_28 (by decide) ?_
    refine v_iadd X dX3_suffer_29 ?_
    refine v_put (i := (iP p)) (k := 5) (x := ((g12 (iP p) 5) + 4)) (ty := .int) X (lt_PT hp) (sh_PT hp) rfl in_PT (by decide) tyX3 tyX3_ok nX3 wf_PT_27 rfl rfl rfl rfl rfl (fun _ => Nat.le_of_ble_eq_true rfl) (fun _ _ => rfl) dX3_suffer_30 ?_
    generalize hg30 : (up g12 (iP p) 5 ((g12 (iP p) 5) + 4)) = g30
    have hI30 : Ic g30 := by rw [← hg30]; exact (Ic.upPT hI12 (by decide))
    refine v_goto (tgt := 65) X dX3_suffer_33 (by decide) ?_
    have e9 : f_PT_suffer p xa σ = g30 := by subst hg7; subst hg12; subst hg30; simp only [f_PT_suffer, if_pos h20]
    exact v_endV hend dX3_suffer_65 e9
theorem I_PT_suffer (p : Nat) (xa : Int32) {σ : St} (hI : Ic σ) : Ic (f_PT_suffer p xa σ) := by
  unfold f_PT_suffer
  exact (ic_ite (fun _ => (Ic.upPT (Ic.upPT (Ic.upPT hI (by decide)) (by decide)) (by decide))) (fun _ => (ic_ite (fun _ => (ic_ite (fun _ => (Ic.upPT (Ic.upPT (Ic.upPT hI (by decide)) (by decide)) (by decide))) (fun _ => (I_PT_restart p (Ic.upPT (Ic.upPT hI (by decide)) (by decide)))))) (fun _ => (Ic.upPT (Ic.upPT (Ic.upPT hI (by decide)) (by decide)) (by decide))))))
def f_PT_start (p : Nat) (σ : St) : St :=
  (up (upr (f_PT_clearRegisters p (up (up (up (up (up (up σ (iP p) 6 ((if (σ (iP p) 2) ≤ 0 then 0 else 1) : Int32)) (iP p) 7 0) (iP p) 10 0) (iP p) 11 0) (iP p) 12 0) (iP p) 13 0)) (iI p) (va_cpy ((f_PT_clearRegisters p (up (up (up (up (up (up σ (iP p) 6 ((if (σ (iP p) 2) ≤ 0 then 0 else 1) : Int32)) (iP p) 7 0) (iP p) 10 0) (iP p) 11 0) (iP p) 12 0) (iP p) 13 0)) iWO) ((f_PT_clearRegisters p (up (up (up (up (up (up σ (iP p) 6 ((if (σ (iP p) 2) ≤ 0 then 0 else 1) : Int32)) (iP p) 7 0) (iP p) 10 0) (iP p) 11 0) (iP p) 12 0) (iP p) 13 0)) (iI p)) (((f_PT_clearRegisters p (up (up (up (up (up (up σ (iP p) 6 ((if (σ (iP p) 2) ≤ 0 then 0 else 1) : Int32)) (iP p) 7 0) (iP p) 10 0) (iP p) 11 0) (iP p) 12 0) (iP p) 13 0)) (iP p) 1) : Int32).toNatClampNeg (0 : Int32).toNatClampNeg (((f_PT_clearRegisters p (up (up (up (up (up (up σ (iP p) 6 ((if (σ (iP p) 2) ≤ 0 then 0 else 1) : Int32)) (iP p) 7 0) (iP p) 10 0) (iP p) 11 0) (iP p) 12 0) (iP p) 13 0)) (iP p) 2) : Int32).toNatClampNeg)) (iP p) 4 ((if ((upr (f_PT_clearRegisters p (up (up (up (up (up (up σ (iP p) 6 ((if (σ (iP p) 2) ≤ 0 then 0 else 1) : Int32)) (iP p) 7 0) (iP p) 10 0) (iP p) 11 0) (iP p) 12 0) (iP p) 13 0)) (iI p) (va_cpy ((f_PT_clearRegisters p (up (up (up (up (up (up σ (iP p) 6 ((if (σ (iP p) 2) ≤ 0 then 0 else 1) : Int32)) (iP p) 7 0) (iP p) 10 0) (iP p) 11 0) (iP p) 12 0) (iP p) 13 0)) iWO) ((f_PT_clearRegisters p (up (up (up (up (up (up σ (iP p) 6 ((if (σ (iP p) 2) ≤ 0 then 0 else 1) : Int32)) (iP p) 7 0) (iP p) 10 0) (iP p) 11 0) (iP p) 12 0) (iP p) 13 0)) (iI p)) (((f_PT_clearRegisters p (up (up (up (up (up (up σ (iP p) 6 ((if (σ (iP p) 2) ≤ 0 then 0 else 1) : Int32)) (iP p) 7 0) (iP p) 10 0) (iP p) 11 0) (iP p) 12 0) (iP p) 13 0)) (iP p) 1) : Int32).toNatClampNeg (0 : Int32).toNatClampNeg (((f_PT_clearRegisters p (up (up (up (up (up (up σ (iP p) 6 ((if (σ (iP p) 2) ≤ 0 then 0 else 1) : Int32)) (iP p) 7 0) (iP p) 10 0) (iP p) 11 0) (iP p) 12 0) (iP p) 13 0)) (iP p) 2) : Int32).toNatClampNeg)) (iP p) 6) = 0 then 0 else (f_PT_measured p (upr (f_PT_clearRegisters p (up (up (up (up (up (up σ (iP p) 6 ((if (σ (iP p) 2) ≤ 0 then 0 else 1) : Int32)) (iP p) 7 0) (iP p) 10 0) (iP p) 11 0) (iP p) 12 0) (iP p) 13 0)) (iI p) (va_cpy ((f_PT_clearRegisters p (up (up (up (up (up (up σ (iP p) 6 ((if (σ (iP p) 2) ≤ 0 then 0 else 1) : Int32)) (iP p) 7 0) (iP p) 10 0) (iP p) 11 0) (iP p) 12 0) (iP p) 13 0)) iWO) ((f_PT_clearRegisters p (up (up (up (up (up (up σ (iP p) 6 ((if (σ (iP p) 2) ≤ 0 then 0 else 1) : Int32)) (iP p) 7 0) (iP p) 10 0) (iP p) 11 0) (iP p) 12 0) (iP p) 13 0)) (iI p)) (((f_PT_clearRegisters p (up (up (up (up (up (up σ (iP p) 6 ((if (σ (iP p) 2) ≤ 0 then 0 else 1) : Int32)) (iP p) 7 0) (iP p) 10 0) (iP p) 11 0) (iP p) 12 0) (iP p) 13 0)) (iP p) 1) : Int32).toNatClampNeg (0 : Int32).toNatClampNeg (((f_PT_clearRegisters p (up (up (up (up (up (up σ (iP p) 6 ((if (σ (iP p) 2) ≤ 0 then 0 else 1) : Int32)) (iP p) 7 0) (iP p) 10 0) (iP p) 11 0) (iP p) 12 0) (iP p) 13 0)) (iP p) 2) : Int32).toNatClampNeg)))) : Int32))
set_option maxHeartbeats 4000000 in
set_option maxRecDepth 100000 in
theorem c_PT_start {p : Nat} (hp : p < 4) (σ : St) (hI : Ic σ) : CV l D (tyL cA) rh (rcW rh cA) NW yX3_start cX3_start 2 2 [.ref (rh (iP p)), .ref (rh iWO)] σ (f_PT_start p σ) := by
  refine CV.of rfl (Nat.le_of_ble_eq_true rfl) ?_
  intro p9 e s m args below meth c A Q X hend
  refine v_lv (lv' := [(0, .ref (rh (iP p))), (1, .ref (rh iWO))]) [0, 1] rfl ?_
  refine v_aload_n X 0 dX3_start_0 rfl rfl ?_
  refine v_aload_n X 0 dX3_start_1 rfl rfl ?_
  refine v_getI (i := (iP p)) (k := 2) X (lt_PT hp) (sh_PT hp) rfl in_PT (by decide) wf_PT_18 rfl (fun _ => rfl) dX3_start_2 ?_
  refine v_suff (pc2 := 13) (lv2 := [(0, .ref (rh (iP p))), (1, .ref (rh iWO))]) (st2 := [.int ((if (σ (iP p) 2) ≤ 0 then 0 else 1) : Int32), .ref (rh (iP p))]) (σ2 := σ) ?_ (fun J5 => ?_)
  rotate_left
  ·
    refine v_if_le X 12 dX3_start_5 (by decide) (fun h5 => ?_) (fun h5 => ?_)
    ·
      refine v_iconst (v := 0) X dX3_start_12 (by decide) ?_
      have e9 : (((if (σ (iP p) 2) ≤ 0 then 0 else 1) : Int32) : Int32) = 0 := by simp only [if_pos h5]
      rw [e9] at J5
      exact J5
    ·
      refine v_iconst (v := 1) X dX3_start_8 (by decide) ?_
      refine v_goto (tgt := 13) X dX3_start_9 (by decide) ?_
      have e9 : (((if (σ (iP p) 2) ≤ 0 then 0 else 1) : Int32) : Int32) = 1 := by simp only [if_neg h5]
      rw [e9] at J5
      exact J5
  refine v_put (i := (iP p)) (k := 6) (x := ((if (σ (iP p) 2) ≤ 0 then 0 else 1) : Int32)) (ty := .boolean) X (lt_PT hp) (sh_PT hp) rfl in_PT (by decide) tyX3 tyX3_ok nX3 wf_PT_30 rfl rfl rfl (zN (by repeat' first | exact Or.inl rfl | exact Or.inr rfl | apply z_ite)) (zF (by repeat' first | exact Or.inl rfl | exact Or.inr rfl | apply z_ite)) (fun _ => Nat.le_of_ble_eq_true rfl) (fun _ _ => rfl) dX3_start_13 ?_
  generalize hg13 : (up σ (iP p) 6 ((if (σ (iP p) 2) ≤ 0 then 0 else 1) : Int32)) = g13
  have hI13 : Ic g13 := by rw [← hg13]; exact (Ic.upPT hI (by decide))
  refine v_aload_n X 0 dX3_start_16 rfl rfl ?_
  refine v_iconst (v := 0) X dX3_start_17 (by decide) ?_
  refine v_put (i := (iP p)) (k := 7) (x := 0) (ty := .boolean) X (lt_PT hp) (sh_PT hp) rfl in_PT (by decide) tyX3 tyX3_ok nX3 wf_PT_34 rfl rfl rfl (zN (Or.inl rfl)) (zF (Or.inl rfl)) (fun _ => Nat.le_of_ble_eq_true rfl) (fun _ _ => rfl) dX3_start_18 ?_
  generalize hg18 : (up g13 (iP p) 7 0) = g18
  have hI18 : Ic g18 := by rw [← hg18]; exact (Ic.upPT hI13 (by decide))
  refine v_aload_n X 0 dX3_start_21 rfl rfl ?_
  refine v_iconst (v := 0) X dX3_start_22 (by decide) ?_
  refine v_put (i := (iP p)) (k := 10) (x := 0) (ty := .int) X (lt_PT hp) (sh_PT hp) rfl in_PT (by decide) tyX3 tyX3_ok nX3 wf_PT_44 rfl rfl rfl rfl rfl (fun _ => Nat.le_of_ble_eq_true rfl) (fun _ _ => rfl) dX3_start_23 ?_
  generalize hg23 : (up g18 (iP p) 10 0) = g23
  have hI23 : Ic g23 := by rw [← hg23]; exact (Ic.upPT hI18 (by decide))
  refine v_aload_n X 0 dX3_start_26 rfl rfl ?_
  refine v_iconst (v := 0) X dX3_start_27 (by decide) ?_
  refine v_put (i := (iP p)) (k := 11) (x := 0) (ty := .int) X (lt_PT hp) (sh_PT hp) rfl in_PT (by decide) tyX3 tyX3_ok nX3 wf_PT_47 rfl rfl rfl rfl rfl (fun _ => Nat.le_of_ble_eq_true rfl) (fun _ _ => rfl) dX3_start_28 ?_
  generalize hg28 : (up g23 (iP p) 11 0) = g28
  have hI28 : Ic g28 := by rw [← hg28]; exact (Ic.upPT hI23 (by decide))
  refine v_aload_n X 0 dX3_start_31 rfl rfl ?_
  refine v_iconst (v := 0) X dX3_start_32 (by decide) ?_
  refine v_put (i := (iP p)) (k := 12) (x := 0) (ty := .int) X (lt_PT hp) (sh_PT hp) rfl in_PT (by decide) tyX3 tyX3_ok nX3 wf_PT_50 rfl rfl rfl rfl rfl (fun _ => Nat.le_of_ble_eq_true rfl) (fun _ _ => rfl) dX3_start_33 ?_
  generalize hg33 : (up g28 (iP p) 12 0) = g33
  have hI33 : Ic g33 := by rw [← hg33]; exact (Ic.upPT hI28 (by decide))
  refine v_aload_n X 0 dX3_start_36 rfl rfl ?_
  refine v_iconst (v := 0) X dX3_start_37 (by decide) ?_
  refine v_put (i := (iP p)) (k := 13) (x := 0) (ty := .int) X (lt_PT hp) (sh_PT hp) rfl in_PT (by decide) tyX3 tyX3_ok nX3 wf_PT_53 rfl rfl rfl rfl rfl (fun _ => Nat.le_of_ble_eq_true rfl) (fun _ _ => rfl) dX3_start_38 ?_
  generalize hg38 : (up g33 (iP p) 13 0) = g38
  have hI38 : Ic g38 := by rw [← hg38]; exact (Ic.upPT hI33 (by decide))
  refine v_aload_n X 0 dX3_start_41 rfl rfl ?_
  refine v_callV_CV (rest := []) X [] (c_PT_clearRegisters hp g38 ) mf_PT_clearRegisters wi_PT_clearRegisters wl_PT_clearRegisters (lt_PT hp) (sh_PT hp) rfl wm_PT_56 rfl ⟨by decide, by decide⟩ (Nat.le_of_ble_eq_true rfl) ⟨by decide, by decide⟩ dX3_start_42 ?_
  generalize hg42 : (f_PT_clearRegisters p g38) = g42
  have hI42 : Ic g42 := by rw [← hg42]; exact (I_PT_clearRegisters p hI38)
  refine v_aload_n X 1 dX3_start_45 rfl rfl ?_
  refine v_aload_n X 0 dX3_start_46 rfl rfl ?_
  refine v_getI (i := (iP p)) (k := 1) X (lt_PT hp) (sh_PT hp) rfl in_PT (by decide) wf_PT_15 rfl (fun _ => rfl) dX3_start_47 ?_
  refine v_aload_n X 0 dX3_start_50 rfl rfl ?_
  refine v_getR (j := (iI p)) (i := (iP p)) (k := 9) X (lt_PT hp) (sh_PT hp) rfl in_PT (by decide) wf_PT_41 rfl (fun _ => rfl) dX3_start_51 ?_
  refine v_iconst (v := 0) X dX3_start_54 (by decide) ?_
  refine v_aload_n X 0 dX3_start_55 rfl rfl ?_
  refine v_getI (i := (iP p)) (k := 2) X (lt_PT hp) (sh_PT hp) rfl in_PT (by decide) wf_PT_18 rfl (fun _ => rfl) dX3_start_56 ?_
  refine v_copy (i1 := iWO) (i2 := (iI p)) (t0 := 0) X (lt_WO ) (sh_WO ) (lt_IM hp) (sh_IM hp) rfl wm_PT_59 wac_n wac_s wac_i (nlt0 (Ic.rg hI42 hp).1) (by decide) (nlt0 (Ic.rg hI42 hp).2.1) (cp_b (Ic.rg hI42 hp).1 (Ic.rg hI42 hp).2.1 (Ic.rg hI42 hp).2.2.2) (cp_a (Ic.rg hI42 hp).2.1 (Ic.rg hI42 hp).2.2.1) (Nat.le_of_ble_eq_true rfl) (by decide) dX3_start_59 ?_
  generalize hg59 : (upr g42 (iI p) (va_cpy (g42 iWO) (g42 (iI p)) ((g42 (iP p) 1) : Int32).toNatClampNeg (0 : Int32).toNatClampNeg ((g42 (iP p) 2) : Int32).toNatClampNeg)) = g59
  have hI59 : Ic g59 := by rw [← hg59]; exact (Ic.uprIM hI42)
  refine v_aload_n X 0 dX3_start_62 rfl rfl ?_
  refine v_aload_n X 0 dX3_start_63 rfl rfl ?_
  refine v_getI (i := (iP p)) (k := 6) X (lt_PT hp) (sh_PT hp) rfl in_PT (by decide) wf_PT_30 rfl (fun _ => rfl) dX3_start_64 ?_
  refine v_suff (pc2 := 78) (lv2 := [(0, .ref (rh (iP p))), (1, .ref (rh iWO))]) (st2 := [.int ((if (g59 (iP p) 6) = 0 then 0 else (f_PT_measured p g59)) : Int32), .ref (rh (iP p))]) (σ2 := g59) ?_ (fun J67 => ?_)
  rotate_left
  ·
    refine v_if_eq X 77 dX3_start_67 (by decide) (fun h67 => ?_) (fun h67 => ?_)
    ·
      refine v_iconst (v := 0) X dX3_start_77 (by decide) ?_
      have e9 : (((if (g59 (iP p) 6) = 0 then 0 else (f_PT_measured p g59)) : Int32) : Int32) = 0 := by simp only [if_pos h67]
      rw [e9] at J67
      exact J67
    ·
      refine v_aload_n X 0 dX3_start_70 rfl rfl ?_
      refine v_callV_CI (rest := [.ref (rh (iP p))]) X [] (c_PT_measured hp g59 hI59) mf_PT_measured wi_PT_measured wl_PT_measured (lt_PT hp) (sh_PT hp) rfl wm_PT_65 rfl ⟨by decide, by decide⟩ (Nat.le_of_ble_eq_true rfl) ⟨by decide, by decide⟩ dX3_start_71 ?_
      refine v_goto (tgt := 78) X dX3_start_74 (by decide) ?_
      have e9 : (((if (g59 (iP p) 6) = 0 then 0 else (f_PT_measured p g59)) : Int32) : Int32) = (f_PT_measured p g59) := by simp only [if_neg h67]
      rw [e9] at J67
      exact J67
  refine v_put (i := (iP p)) (k := 4) (x := ((if (g59 (iP p) 6) = 0 then 0 else (f_PT_measured p g59)) : Int32)) (ty := .int) X (lt_PT hp) (sh_PT hp) rfl in_PT (by decide) tyX3 tyX3_ok nX3 wf_PT_24 rfl rfl rfl rfl rfl (fun _ => Nat.le_of_ble_eq_true rfl) (fun _ _ => rfl) dX3_start_78 ?_
  generalize hg78 : (up g59 (iP p) 4 ((if (g59 (iP p) 6) = 0 then 0 else (f_PT_measured p g59)) : Int32)) = g78
  have hI78 : Ic g78 := by rw [← hg78]; exact (Ic.upPT hI59 (by decide))
  have e9 : f_PT_start p σ = g78 := by subst hg13; subst hg18; subst hg23; subst hg28; subst hg33; subst hg38; subst hg42; subst hg59; subst hg78; simp only [f_PT_start]
  exact v_endV hend dX3_start_81 e9
theorem I_PT_start (p : Nat) {σ : St} (hI : Ic σ) : Ic (f_PT_start p σ) := by
  unfold f_PT_start
  exact (Ic.upPT (Ic.uprIM (I_PT_clearRegisters p (Ic.upPT (Ic.upPT (Ic.upPT (Ic.upPT (Ic.upPT (Ic.upPT hI (by decide)) (by decide)) (by decide)) (by decide)) (by decide)) (by decide)))) (by decide))
end CLS
