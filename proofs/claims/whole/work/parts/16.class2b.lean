section CLS
variable {l : Launch} {D : va_G} {rh : Nat → Nat} {cA : Nat → ClassId}
def f_PT_overlaps (p : Nat) (xa : Int32) (xb : Int32) (σ : St) : Int32 :=
  ((if (σ (iP p) 2) ≤ 0 then 0 else (if xb ≤ 0 then 0 else (if (xa + xb) ≤ (σ (iP p) 1) then 0 else (if ((σ (iP p) 1) + (σ (iP p) 2)) ≤ xa then 0 else 1)))) : Int32)
theorem z_PT_overlaps (p : Nat) (xa : Int32) (xb : Int32) (σ : St) : (f_PT_overlaps p xa xb σ) = 0 ∨ (f_PT_overlaps p xa xb σ) = 1 := by
  unfold f_PT_overlaps
  repeat' first | exact Or.inl rfl | exact Or.inr rfl | apply z_ite | split
set_option maxHeartbeats 4000000 in
set_option maxRecDepth 100000 in
theorem c_PT_overlaps {p : Nat} (hp : p < 4) (xa : Int32) (xb : Int32) (σ : St) : CI l D (tyL cA) rh (rcW rh cA) NW yX3_overlaps cX3_overlaps 3 .boolean 0 [.ref (rh (iP p)), .int xa, .int xb] σ (f_PT_overlaps p xa xb σ) σ := by
  refine CI.of rfl (Nat.le_of_ble_eq_true rfl) (zN (z_PT_overlaps ..)) ?_
  intro p9 e s m args below meth c A Q X hend
  refine v_lv (lv' := [(0, .ref (rh (iP p))), (1, .int xa), (2, .int xb)]) [0, 1, 2] rfl ?_
  refine v_aload_n X 0 dX3_overlaps_0 rfl rfl ?_
  refine v_getI (i := (iP p)) (k := 2) X (lt_PT hp) (sh_PT hp) rfl in_PT (by decide) wf_PT_18 rfl (fun _ => rfl) dX3_overlaps_1 ?_
  refine v_suff (pc2 := 39) (lv2 := [(0, .ref (rh (iP p))), (1, .int xa), (2, .int xb)]) (st2 := [.int ((if (σ (iP p) 2) ≤ 0 then 0 else (if xb ≤ 0 then 0 else (if (xa + xb) ≤ (σ (iP p) 1) then 0 else (if ((σ (iP p) 1) + (σ (iP p) 2)) ≤ xa then 0 else 1)))) : Int32)]) (σ2 := σ) ?_ (fun J4 => ?_)
  rotate_left
  ·
    refine v_if_le X 38 dX3_overlaps_4 (by decide) (fun h4 => ?_) (fun h4 => ?_)
    ·
      refine v_iconst (v := 0) X dX3_overlaps_38 (by decide) ?_
      have e9 : (((if (σ (iP p) 2) ≤ 0 then 0 else (if xb ≤ 0 then 0 else (if (xa + xb) ≤ (σ (iP p) 1) then 0 else (if ((σ (iP p) 1) + (σ (iP p) 2)) ≤ xa then 0 else 1)))) : Int32) : Int32) = 0 := by simp only [if_pos h4]
      rw [e9] at J4
      exact J4
    ·
      refine v_iload_n X 2 dX3_overlaps_7 rfl rfl ?_
      refine v_if_le X 38 dX3_overlaps_8 (by decide) (fun h8 => ?_) (fun h8 => ?_)
      ·
        refine v_iconst (v := 0) X dX3_overlaps_38 (by decide) ?_
        have e9 : (((if (σ (iP p) 2) ≤ 0 then 0 else (if xb ≤ 0 then 0 else (if (xa + xb) ≤ (σ (iP p) 1) then 0 else (if ((σ (iP p) 1) + (σ (iP p) 2)) ≤ xa then 0 else 1)))) : Int32) : Int32) = 0 := by simp only [if_neg h4, if_pos h8]
        rw [e9] at J4
        exact J4
      ·
        refine v_aload_n X 0 dX3_overlaps_11 rfl rfl ?_
        refine v_getI (i := (iP p)) (k := 1) X (lt_PT hp) (sh_PT hp) rfl in_PT (by decide) wf_PT_15 rfl (fun _ => rfl) dX3_overlaps_12 ?_
        refine v_iload_n X 1 dX3_overlaps_15 rfl rfl ?_
        refine v_iload_n X 2 dX3_overlaps_16 rfl rfl ?_
        refine v_iadd X dX3_overlaps_17 ?_
        refine v_icmp_ge X 38 dX3_overlaps_18 (by decide) (fun h18 => ?_) (fun h18 => ?_)
        ·
          refine v_iconst (v := 0) X dX3_overlaps_38 (by decide) ?_
          have e9 : (((if (σ (iP p) 2) ≤ 0 then 0 else (if xb ≤ 0 then 0 else (if (xa + xb) ≤ (σ (iP p) 1) then 0 else (if ((σ (iP p) 1) + (σ (iP p) 2)) ≤ xa then 0 else 1)))) : Int32) : Int32) = 0 := by simp only [if_neg h4, if_neg h8, if_pos h18]
          rw [e9] at J4
          exact J4
        ·
          refine v_iload_n X 1 dX3_overlaps_21 rfl rfl ?_
          refine v_aload_n X 0 dX3_overlaps_22 rfl rfl ?_
          refine v_getI (i := (iP p)) (k := 1) X (lt_PT hp) (sh_PT hp) rfl in_PT (by decide) wf_PT_15 rfl (fun _ => rfl) dX3_overlaps_23 ?_
          refine v_aload_n X 0 dX3_overlaps_26 rfl rfl ?_
          refine v_getI (i := (iP p)) (k := 2) X (lt_PT hp) (sh_PT hp) rfl in_PT (by decide) wf_PT_18 rfl (fun _ => rfl) dX3_overlaps_27 ?_
          refine v_iadd X dX3_overlaps_30 ?_
          refine v_icmp_ge X 38 dX3_overlaps_31 (by decide) (fun h31 => ?_) (fun h31 => ?_)
          ·
            refine v_iconst (v := 0) X dX3_overlaps_38 (by decide) ?_
            have e9 : (((if (σ (iP p) 2) ≤ 0 then 0 else (if xb ≤ 0 then 0 else (if (xa + xb) ≤ (σ (iP p) 1) then 0 else (if ((σ (iP p) 1) + (σ (iP p) 2)) ≤ xa then 0 else 1)))) : Int32) : Int32) = 0 := by simp only [if_neg h4, if_neg h8, if_neg h18, if_pos h31]
            rw [e9] at J4
            exact J4
          ·
            refine v_iconst (v := 1) X dX3_overlaps_34 (by decide) ?_
            refine v_goto (tgt := 39) X dX3_overlaps_35 (by decide) ?_
            have e9 : (((if (σ (iP p) 2) ≤ 0 then 0 else (if xb ≤ 0 then 0 else (if (xa + xb) ≤ (σ (iP p) 1) then 0 else (if ((σ (iP p) 1) + (σ (iP p) 2)) ≤ xa then 0 else 1)))) : Int32) : Int32) = 1 := by simp only [if_neg h4, if_neg h8, if_neg h18, if_neg h31]
            rw [e9] at J4
            exact J4
  have e9 : f_PT_overlaps p xa xb σ = ((if (σ (iP p) 2) ≤ 0 then 0 else (if xb ≤ 0 then 0 else (if (xa + xb) ≤ (σ (iP p) 1) then 0 else (if ((σ (iP p) 1) + (σ (iP p) 2)) ≤ xa then 0 else 1)))) : Int32) := by simp only [f_PT_overlaps]
  exact v_endI hend dX3_overlaps_39 e9 rfl
def f_PT_holds (p : Nat) (xa : Int32) (σ : St) : Int32 :=
  (f_SM_within xa 0 ((4 * (σ (iP p) 2)) - 4))
theorem z_PT_holds (p : Nat) (xa : Int32) (σ : St) : (f_PT_holds p xa σ) = 0 ∨ (f_PT_holds p xa σ) = 1 := by
  unfold f_PT_holds
  repeat' first | exact Or.inl rfl | exact Or.inr rfl | exact z_SM_within .. | apply z_ite | split
set_option maxHeartbeats 4000000 in
set_option maxRecDepth 100000 in
theorem c_PT_holds {p : Nat} (hp : p < 4) (xa : Int32) (σ : St) : CI l D (tyL cA) rh (rcW rh cA) NW yX3_holds cX3_holds 2 .boolean 1 [.ref (rh (iP p)), .int xa] σ (f_PT_holds p xa σ) σ := by
  refine CI.of rfl (Nat.le_of_ble_eq_true rfl) (zN (z_PT_holds ..)) ?_
  intro p9 e s m args below meth c A Q X hend
  refine v_lv (lv' := [(0, .ref (rh (iP p))), (1, .int xa)]) [0, 1] rfl ?_
  refine v_iload_n X 1 dX3_holds_0 rfl rfl ?_
  refine v_iconst (v := 0) X dX3_holds_1 (by decide) ?_
  refine v_iconst (v := 4) X dX3_holds_2 (by decide) ?_
  refine v_aload_n X 0 dX3_holds_3 rfl rfl ?_
  refine v_getI (i := (iP p)) (k := 2) X (lt_PT hp) (sh_PT hp) rfl in_PT (by decide) wf_PT_18 rfl (fun _ => rfl) dX3_holds_4 ?_
  refine v_imul X dX3_holds_7 ?_
  refine v_iconst (v := 4) X dX3_holds_8 (by decide) ?_
  refine v_isub X dX3_holds_9 ?_
  refine v_callSN_CI (rest := []) X [.int xa, .int 0, .int ((4 * (σ (iP p) 2)) - 4)] (c_SM_within xa 0 ((4 * (σ (iP p) 2)) - 4) σ ) mf_SM_within ws_SM_within wn_PT_73 rfl ⟨by decide, by decide⟩ (Nat.le_of_ble_eq_true rfl) ⟨by decide, by decide⟩ dX3_holds_10 ?_
  have e9 : f_PT_holds p xa σ = (f_SM_within xa 0 ((4 * (σ (iP p) 2)) - 4)) := by simp only [f_PT_holds]
  exact v_endI hend dX3_holds_13 e9 rfl
def f_PT_noteBegun (p : Nat) (σ : St) : St :=
  (up σ (iP p) 13 ((σ (iP p) 13) + 1))
set_option maxHeartbeats 4000000 in
set_option maxRecDepth 100000 in
theorem c_PT_noteBegun {p : Nat} (hp : p < 4) (σ : St) : CV l D (tyL cA) rh (rcW rh cA) NW yX3_noteBegun cX3_noteBegun 1 0 [.ref (rh (iP p))] σ (f_PT_noteBegun p σ) := by
  refine CV.of rfl (Nat.le_of_ble_eq_true rfl) ?_
  intro p9 e s m args below meth c A Q X hend
  refine v_lv (lv' := [(0, .ref (rh (iP p)))]) [0] rfl ?_
  refine v_aload_n X 0 dX3_noteBegun_0 rfl rfl ?_
  refine v_dup X dX3_noteBegun_1 rfl ?_
  refine v_getI (i := (iP p)) (k := 13) X (lt_PT hp) (sh_PT hp) rfl in_PT (by decide) wf_PT_53 rfl (fun _ => rfl) dX3_noteBegun_2 ?_
  refine v_iconst (v := 1) X dX3_noteBegun_5 (by decide) ?_
  refine v_iadd X dX3_noteBegun_6 ?_
  refine v_put (i := (iP p)) (k := 13) (x := ((σ (iP p) 13) + 1)) (ty := .int) X (lt_PT hp) (sh_PT hp) rfl in_PT (by decide) tyX3 tyX3_ok nX3 wf_PT_53 rfl rfl rfl rfl rfl (fun _ => Nat.le_of_ble_eq_true rfl) (fun _ _ => rfl) dX3_noteBegun_7 ?_
  have e9 : f_PT_noteBegun p σ = (up σ (iP p) 13 ((σ (iP p) 13) + 1)) := by simp only [f_PT_noteBegun]
  exact v_endV hend dX3_noteBegun_10 e9
theorem I_PT_noteBegun (p : Nat) {σ : St} (hI : Ic σ) : Ic (f_PT_noteBegun p σ) := by
  unfold f_PT_noteBegun
  exact (Ic.upPT hI (by decide))
def f_PT_sinceBooted (p : Nat) (xa : Int32) (σ : St) : Int32 :=
  (if xa = 0 then ((if (σ (iP p) 6) = 0 then 0 else 1) : Int32) else (if xa = 1 then (σ (iP p) 10) else (if xa = 2 then (σ (iP p) 11) else (if xa = 3 then (σ (iP p) 12) else (if xa = 4 then (σ (iP p) 13) else (σ (iP p) 4))))))
set_option maxHeartbeats 4000000 in
set_option maxRecDepth 100000 in
theorem c_PT_sinceBooted {p : Nat} (hp : p < 4) (xa : Int32) (σ : St) : CI l D (tyL cA) rh (rcW rh cA) NW yX3_sinceBooted cX3_sinceBooted 2 .int 0 [.ref (rh (iP p)), .int xa] σ (f_PT_sinceBooted p xa σ) σ := by
  refine CI.of rfl (Nat.le_of_ble_eq_true rfl) rfl ?_
  intro p9 e s m args below meth c A Q X hend
  refine v_lv (lv' := [(0, .ref (rh (iP p))), (1, .int xa)]) [0, 1] rfl ?_
  refine v_iload_n X 1 dX3_sinceBooted_0 rfl rfl ?_
  by_cases h1_0 : xa = 0
  ·
    refine v_tswI (off := 35) X 0 36 h1_0 dX3_sinceBooted_1 (by decide) (by decide) ?_
    refine v_aload_n X 0 dX3_sinceBooted_36 rfl rfl ?_
    refine v_getI (i := (iP p)) (k := 6) X (lt_PT hp) (sh_PT hp) rfl in_PT (by decide) wf_PT_30 rfl (fun _ => rfl) dX3_sinceBooted_37 ?_
    refine v_suff (pc2 := 48) (lv2 := [(0, .ref (rh (iP p))), (1, .int xa)]) (st2 := [.int ((if (σ (iP p) 6) = 0 then 0 else 1) : Int32)]) (σ2 := σ) ?_ (fun J40 => ?_)
    rotate_left
    ·
      refine v_if_eq X 47 dX3_sinceBooted_40 (by decide) (fun h40 => ?_) (fun h40 => ?_)
      ·
        refine v_iconst (v := 0) X dX3_sinceBooted_47 (by decide) ?_
        have e9 : (((if (σ (iP p) 6) = 0 then 0 else 1) : Int32) : Int32) = 0 := by simp only [if_pos h40]
        rw [e9] at J40
        exact J40
      ·
        refine v_iconst (v := 1) X dX3_sinceBooted_43 (by decide) ?_
        refine v_goto (tgt := 48) X dX3_sinceBooted_44 (by decide) ?_
        have e9 : (((if (σ (iP p) 6) = 0 then 0 else 1) : Int32) : Int32) = 1 := by simp only [if_neg h40]
        rw [e9] at J40
        exact J40
    have e9 : f_PT_sinceBooted p xa σ = ((if (σ (iP p) 6) = 0 then 0 else 1) : Int32) := by simp only [f_PT_sinceBooted, if_pos h1_0]
    exact v_endI hend dX3_sinceBooted_48 e9 rfl
  by_cases h1_1 : xa = 1
  ·
    refine v_tswI (off := 48) X 1 49 h1_1 dX3_sinceBooted_1 (by decide) (by decide) ?_
    refine v_aload_n X 0 dX3_sinceBooted_49 rfl rfl ?_
    refine v_getI (i := (iP p)) (k := 10) X (lt_PT hp) (sh_PT hp) rfl in_PT (by decide) wf_PT_44 rfl (fun _ => rfl) dX3_sinceBooted_50 ?_
    have e9 : f_PT_sinceBooted p xa σ = (σ (iP p) 10) := by simp only [f_PT_sinceBooted, if_neg h1_0, if_pos h1_1]
    exact v_endI hend dX3_sinceBooted_53 e9 rfl
  by_cases h1_2 : xa = 2
  ·
    refine v_tswI (off := 53) X 2 54 h1_2 dX3_sinceBooted_1 (by decide) (by decide) ?_
    refine v_aload_n X 0 dX3_sinceBooted_54 rfl rfl ?_
    refine v_getI (i := (iP p)) (k := 11) X (lt_PT hp) (sh_PT hp) rfl in_PT (by decide) wf_PT_47 rfl (fun _ => rfl) dX3_sinceBooted_55 ?_
    have e9 : f_PT_sinceBooted p xa σ = (σ (iP p) 11) := by simp only [f_PT_sinceBooted, if_neg h1_0, if_neg h1_1, if_pos h1_2]
    exact v_endI hend dX3_sinceBooted_58 e9 rfl
  by_cases h1_3 : xa = 3
  ·
    refine v_tswI (off := 58) X 3 59 h1_3 dX3_sinceBooted_1 (by decide) (by decide) ?_
    refine v_aload_n X 0 dX3_sinceBooted_59 rfl rfl ?_
    refine v_getI (i := (iP p)) (k := 12) X (lt_PT hp) (sh_PT hp) rfl in_PT (by decide) wf_PT_50 rfl (fun _ => rfl) dX3_sinceBooted_60 ?_
    have e9 : f_PT_sinceBooted p xa σ = (σ (iP p) 12) := by simp only [f_PT_sinceBooted, if_neg h1_0, if_neg h1_1, if_neg h1_2, if_pos h1_3]
    exact v_endI hend dX3_sinceBooted_63 e9 rfl
  by_cases h1_4 : xa = 4
  ·
    refine v_tswI (off := 63) X 4 64 h1_4 dX3_sinceBooted_1 (by decide) (by decide) ?_
    refine v_aload_n X 0 dX3_sinceBooted_64 rfl rfl ?_
    refine v_getI (i := (iP p)) (k := 13) X (lt_PT hp) (sh_PT hp) rfl in_PT (by decide) wf_PT_53 rfl (fun _ => rfl) dX3_sinceBooted_65 ?_
    have e9 : f_PT_sinceBooted p xa σ = (σ (iP p) 13) := by simp only [f_PT_sinceBooted, if_neg h1_0, if_neg h1_1, if_neg h1_2, if_neg h1_3, if_pos h1_4]
    exact v_endI hend dX3_sinceBooted_68 e9 rfl
  refine v_tswO X 69 dX3_sinceBooted_1 (by have g0 := lv_neT (a := 0) h1_0 (by decide); have g1 := lv_neT (a := 1) h1_1 (by decide); have g2 := lv_neT (a := 2) h1_2 (by decide); have g3 := lv_neT (a := 3) h1_3 (by decide); have g4 := lv_neT (a := 4) h1_4 (by decide); omega) (by decide) ?_
  refine v_aload_n X 0 dX3_sinceBooted_69 rfl rfl ?_
  refine v_getI (i := (iP p)) (k := 4) X (lt_PT hp) (sh_PT hp) rfl in_PT (by decide) wf_PT_24 rfl (fun _ => rfl) dX3_sinceBooted_70 ?_
  have e9 : f_PT_sinceBooted p xa σ = (σ (iP p) 4) := by simp only [f_PT_sinceBooted, if_neg h1_0, if_neg h1_1, if_neg h1_2, if_neg h1_3, if_neg h1_4]
  exact v_endI hend dX3_sinceBooted_73 e9 rfl
def f_PT_get (p : Nat) (xa : Int32) (σ : St) : Int32 :=
  ((if xa ≤ 0 then 0 else (if 16 ≤ xa then 0 else (σ (iR p) (xa).toNatClampNeg))) : Int32)
set_option maxHeartbeats 4000000 in
set_option maxRecDepth 100000 in
theorem c_PT_get {p : Nat} (hp : p < 4) (xa : Int32) (σ : St) : CI l D (tyL cA) rh (rcW rh cA) NW yX3_get cX3_get 2 .int 0 [.ref (rh (iP p)), .int xa] σ (f_PT_get p xa σ) σ := by
  refine CI.of rfl (Nat.le_of_ble_eq_true rfl) rfl ?_
  intro p9 e s m args below meth c A Q X hend
  refine v_lv (lv' := [(0, .ref (rh (iP p))), (1, .int xa)]) [0, 1] rfl ?_
  refine v_iload_n X 1 dX3_get_0 rfl rfl ?_
  refine v_suff (pc2 := 20) (lv2 := [(0, .ref (rh (iP p))), (1, .int xa)]) (st2 := [.int ((if xa ≤ 0 then 0 else (if 16 ≤ xa then 0 else (σ (iR p) (xa).toNatClampNeg))) : Int32)]) (σ2 := σ) ?_ (fun J1 => ?_)
  rotate_left
  ·
    refine v_if_le X 19 dX3_get_1 (by decide) (fun h1 => ?_) (fun h1 => ?_)
    ·
      refine v_iconst (v := 0) X dX3_get_19 (by decide) ?_
      have e9 : (((if xa ≤ 0 then 0 else (if 16 ≤ xa then 0 else (σ (iR p) (xa).toNatClampNeg))) : Int32) : Int32) = 0 := by simp only [if_pos h1]
      rw [e9] at J1
      exact J1
    ·
      refine v_iload_n X 1 dX3_get_4 rfl rfl ?_
      refine v_bipush (v := 16) X dX3_get_5 (by decide) ?_
      refine v_icmp_ge X 19 dX3_get_7 (by decide) (fun h7 => ?_) (fun h7 => ?_)
      ·
        refine v_iconst (v := 0) X dX3_get_19 (by decide) ?_
        have e9 : (((if xa ≤ 0 then 0 else (if 16 ≤ xa then 0 else (σ (iR p) (xa).toNatClampNeg))) : Int32) : Int32) = 0 := by simp only [if_neg h1, if_pos h7]
        rw [e9] at J1
        exact J1
      ·
        refine v_aload_n X 0 dX3_get_10 rfl rfl ?_
        refine v_getR (j := (iR p)) (i := (iP p)) (k := 8) X (lt_PT hp) (sh_PT hp) rfl in_PT (by decide) wf_PT_37 rfl (fun _ => rfl) dX3_get_11 ?_
        refine v_iload_n X 1 dX3_get_14 rfl rfl ?_
        have hv15 : vp_in xa 16 := (vin_p 16 (by decide) h1 h7)
        refine v_iald (i := (iR p)) (t0 := 0) X (lt_RG hp) (sh_RG hp) rfl hv15 dX3_get_15 ?_
        refine v_goto (tgt := 20) X dX3_get_16 (by decide) ?_
        have e9 : (((if xa ≤ 0 then 0 else (if 16 ≤ xa then 0 else (σ (iR p) (xa).toNatClampNeg))) : Int32) : Int32) = (σ (iR p) (xa).toNatClampNeg) := by simp only [if_neg h1, if_neg h7]
        rw [e9] at J1
        exact J1
  have e9 : f_PT_get p xa σ = ((if xa ≤ 0 then 0 else (if 16 ≤ xa then 0 else (σ (iR p) (xa).toNatClampNeg))) : Int32) := by simp only [f_PT_get]
  exact v_endI hend dX3_get_20 e9 rfl
def f_PT_put (p : Nat) (xa : Int32) (xb : Int32) (σ : St) : St :=
  (if xa ≤ 0 then σ else (if 16 ≤ xa then σ else (up σ (iR p) (xa).toNatClampNeg xb)))
set_option maxHeartbeats 4000000 in
set_option maxRecDepth 100000 in
theorem c_PT_put {p : Nat} (hp : p < 4) (xa : Int32) (xb : Int32) (σ : St) : CV l D (tyL cA) rh (rcW rh cA) NW yX3_put cX3_put 3 0 [.ref (rh (iP p)), .int xa, .int xb] σ (f_PT_put p xa xb σ) := by
  refine CV.of rfl (Nat.le_of_ble_eq_true rfl) ?_
  intro p9 e s m args below meth c A Q X hend
  refine v_lv (lv' := [(0, .ref (rh (iP p))), (1, .int xa), (2, .int xb)]) [0, 1, 2] rfl ?_
  refine v_iload_n X 1 dX3_put_0 rfl rfl ?_
  refine v_if_le X 17 dX3_put_1 (by decide) (fun h1 => ?_) (fun h1 => ?_)
  ·
    have e9 : f_PT_put p xa xb σ = σ := by simp only [f_PT_put, if_pos h1]
    exact v_endV hend dX3_put_17 e9
  ·
    refine v_iload_n X 1 dX3_put_4 rfl rfl ?_
    refine v_bipush (v := 16) X dX3_put_5 (by decide) ?_
    refine v_icmp_ge X 17 dX3_put_7 (by decide) (fun h7 => ?_) (fun h7 => ?_)
    ·
      have e9 : f_PT_put p xa xb σ = σ := by simp only [f_PT_put, if_neg h1, if_pos h7]
      exact v_endV hend dX3_put_17 e9
    ·
      refine v_aload_n X 0 dX3_put_10 rfl rfl ?_
      refine v_getR (j := (iR p)) (i := (iP p)) (k := 8) X (lt_PT hp) (sh_PT hp) rfl in_PT (by decide) wf_PT_37 rfl (fun _ => rfl) dX3_put_11 ?_
      refine v_iload_n X 1 dX3_put_14 rfl rfl ?_
      refine v_iload_n X 2 dX3_put_15 rfl rfl ?_
      have hv16 : vp_in xa 16 := (vin_p 16 (by decide) h1 h7)
      refine v_iast (i := (iR p)) (t0 := 0) X (lt_RG hp) (sh_RG hp) rfl hv16 dX3_put_16 ?_
      have e9 : f_PT_put p xa xb σ = (up σ (iR p) (xa).toNatClampNeg xb) := by simp only [f_PT_put, if_neg h1, if_neg h7]
      exact v_endV hend dX3_put_17 e9
theorem I_PT_put (p : Nat) (xa : Int32) (xb : Int32) {σ : St} (hI : Ic σ) : Ic (f_PT_put p xa xb σ) := by
  unfold f_PT_put
  exact (ic_ite (fun _ => hI) (fun _ => (ic_ite (fun _ => hI) (fun _ => (Ic.upRG hI)))))
end CLS
