section CLS
variable {l : Launch} {D : va_G} {rh : Nat → Nat} {cA : Nat → ClassId}
def f_TT_append (xa : Int32) (xb : Int32) (σ : St) : St :=
  (if 6 ≤ (σ iTT 2) then σ else (up (up (up σ iTP ((σ iTT 2)).toNatClampNeg xa) iTL (((up σ iTP ((σ iTT 2)).toNatClampNeg xa) iTT 2)).toNatClampNeg xb) iTT 2 (((up (up σ iTP ((σ iTT 2)).toNatClampNeg xa) iTL (((up σ iTP ((σ iTT 2)).toNatClampNeg xa) iTT 2)).toNatClampNeg xb) iTT 2) + 1)))
set_option maxHeartbeats 4000000 in
set_option maxRecDepth 100000 in
theorem c_TT_append (xa : Int32) (xb : Int32) (σ : St) (hI : Ic σ) : CV l D (tyL cA) rh (rcW rh cA) NW yX6_append cX6_append 3 0 [.ref (rh iTT), .int xa, .int xb] σ (f_TT_append xa xb σ) := by
  refine CV.of rfl (Nat.le_of_ble_eq_true rfl) ?_
  intro p9 e s m args below meth c A Q X hend
  refine v_lv (lv' := [(0, .ref (rh iTT)), (1, .int xa), (2, .int xb)]) [0, 1, 2] rfl ?_
  refine v_aload_n X 0 dX6_append_0 rfl rfl ?_
  refine v_getI (i := iTT) (k := 2) X (lt_TT ) (sh_TT ) rfl in_TT (by decide) wf_TT_18 rfl (fun _ => rfl) dX6_append_1 ?_
  refine v_bipush (v := 6) X dX6_append_4 (by decide) ?_
  refine v_icmp_ge X 39 dX6_append_6 (by decide) (fun h6 => ?_) (fun h6 => ?_)
  ·
    have e9 : f_TT_append xa xb σ = σ := by simp only [f_TT_append, if_pos h6]
    exact v_endV hend dX6_append_39 e9
  ·
    refine v_aload_n X 0 dX6_append_9 rfl rfl ?_
    refine v_getR (j := iTP) (i := iTT) (k := 0) X (lt_TT ) (sh_TT ) rfl in_TT (by decide) wf_TT_9 rfl (fun _ => rfl) dX6_append_10 ?_
    refine v_aload_n X 0 dX6_append_13 rfl rfl ?_
    refine v_getI (i := iTT) (k := 2) X (lt_TT ) (sh_TT ) rfl in_TT (by decide) wf_TT_18 rfl (fun _ => rfl) dX6_append_14 ?_
    refine v_iload_n X 1 dX6_append_17 rfl rfl ?_
    have hv18 : vp_in (σ iTT 2) 6 := (vin_mk hI.ts.1 (nle (by decide) h6))
    refine v_iast (i := iTP) (t0 := 0) X (lt_TP ) (sh_TP ) rfl hv18 dX6_append_18 ?_
    refine v_aload_n X 0 dX6_append_19 rfl rfl ?_
    refine v_getR (j := iTL) (i := iTT) (k := 1) X (lt_TT ) (sh_TT ) rfl in_TT (by decide) wf_TT_15 rfl (fun _ => rfl) dX6_append_20 ?_
    refine v_aload_n X 0 dX6_append_23 rfl rfl ?_
    refine v_getI (i := iTT) (k := 2) X (lt_TT ) (sh_TT ) rfl in_TT (by decide) wf_TT_18 rfl (fun _ => rfl) dX6_append_24 ?_
    refine v_iload_n X 2 dX6_append_27 rfl rfl ?_
    have hv28 : vp_in ((up σ iTP ((σ iTT 2)).toNatClampNeg xa) iTT 2) 6 := (vin_mk (j := σ iTT 2) hI.ts.1 (nle (by decide) h6))
    refine v_iast (i := iTL) (t0 := 0) X (lt_TL ) (sh_TL ) rfl hv28 dX6_append_28 ?_
    refine v_aload_n X 0 dX6_append_29 rfl rfl ?_
    refine v_dup X dX6_append_30 rfl ?_
    refine v_getI (i := iTT) (k := 2) X (lt_TT ) (sh_TT ) rfl in_TT (by decide) wf_TT_18 rfl (fun _ => rfl) dX6_append_31 ?_
    refine v_iconst (v := 1) X dX6_append_34 (by decide) ?_
    refine v_iadd X dX6_append_35 ?_
    refine v_put (i := iTT) (k := 2) (x := (((up (up σ iTP ((σ iTT 2)).toNatClampNeg xa) iTL (((up σ iTP ((σ iTT 2)).toNatClampNeg xa) iTT 2)).toNatClampNeg xb) iTT 2) + 1)) (ty := .int) X (lt_TT ) (sh_TT ) rfl in_TT (by decide) tyX6 tyX6_ok nX6 wf_TT_18 rfl rfl rfl rfl rfl (fun _ => Nat.le_of_ble_eq_true rfl) (fun _ _ => rfl) dX6_append_36 ?_
    have e9 : f_TT_append xa xb σ = (up (up (up σ iTP ((σ iTT 2)).toNatClampNeg xa) iTL (((up σ iTP ((σ iTT 2)).toNatClampNeg xa) iTT 2)).toNatClampNeg xb) iTT 2 (((up (up σ iTP ((σ iTT 2)).toNatClampNeg xa) iTL (((up σ iTP ((σ iTT 2)).toNatClampNeg xa) iTT 2)).toNatClampNeg xb) iTT 2) + 1)) := by simp only [f_TT_append, if_neg h6]
    exact v_endV hend dX6_append_39 e9
-- I_TT_append: by hand
def f_TT_partitionNow (σ : St) : Int32 :=
  (σ iTP ((σ iTT 3)).toNatClampNeg)
set_option maxHeartbeats 4000000 in
set_option maxRecDepth 100000 in
theorem c_TT_partitionNow  (σ : St) (hI : Ic σ) : CI l D (tyL cA) rh (rcW rh cA) NW yX6_partitionNow cX6_partitionNow 1 .int 0 [.ref (rh iTT)] σ (f_TT_partitionNow σ) σ := by
  refine CI.of rfl (Nat.le_of_ble_eq_true rfl) rfl ?_
  intro p9 e s m args below meth c A Q X hend
  refine v_lv (lv' := [(0, .ref (rh iTT))]) [0] rfl ?_
  refine v_aload_n X 0 dX6_partitionNow_0 rfl rfl ?_
  refine v_getR (j := iTP) (i := iTT) (k := 0) X (lt_TT ) (sh_TT ) rfl in_TT (by decide) wf_TT_9 rfl (fun _ => rfl) dX6_partitionNow_1 ?_
  refine v_aload_n X 0 dX6_partitionNow_4 rfl rfl ?_
  refine v_getI (i := iTT) (k := 3) X (lt_TT ) (sh_TT ) rfl in_TT (by decide) wf_TT_22 rfl (fun _ => rfl) dX6_partitionNow_5 ?_
  have hv8 : vp_in (σ iTT 3) 6 := (vin_mk hI.tc.1 hI.tc.2)
  refine v_iald (i := iTP) (t0 := 0) X (lt_TP ) (sh_TP ) rfl hv8 dX6_partitionNow_8 ?_
  have e9 : f_TT_partitionNow σ = (σ iTP ((σ iTT 3)).toNatClampNeg) := by simp only [f_TT_partitionNow]
  exact v_endI hend dX6_partitionNow_9 e9 rfl
def f_TT_begin (xa : Int32) (σ : St) : St :=
  (up (up (up σ iTT 3 xa) iTT 4 ((up σ iTT 3 xa) iTL (xa).toNatClampNeg)) iTT 5 (((up (up σ iTT 3 xa) iTT 4 ((up σ iTT 3 xa) iTL (xa).toNatClampNeg)) iTT 5) + 1))
set_option maxHeartbeats 4000000 in
set_option maxRecDepth 100000 in
theorem c_TT_begin (xa : Int32) (σ : St) (hw : vp_in xa 6) : CV l D (tyL cA) rh (rcW rh cA) NW yX6_begin cX6_begin 2 0 [.ref (rh iTT), .int xa] σ (f_TT_begin xa σ) := by
  refine CV.of rfl (Nat.le_of_ble_eq_true rfl) ?_
  intro p9 e s m args below meth c A Q X hend
  refine v_lv (lv' := [(0, .ref (rh iTT)), (1, .int xa)]) [0, 1] rfl ?_
  refine v_aload_n X 0 dX6_begin_0 rfl rfl ?_
  refine v_iload_n X 1 dX6_begin_1 rfl rfl ?_
  refine v_put (i := iTT) (k := 3) (x := xa) (ty := .int) X (lt_TT ) (sh_TT ) rfl in_TT (by decide) tyX6 tyX6_ok nX6 wf_TT_22 rfl rfl rfl rfl rfl (fun _ => Nat.le_of_ble_eq_true rfl) (fun _ _ => rfl) dX6_begin_2 ?_
  refine v_aload_n X 0 dX6_begin_5 rfl rfl ?_
  refine v_aload_n X 0 dX6_begin_6 rfl rfl ?_
  refine v_getR (j := iTL) (i := iTT) (k := 1) X (lt_TT ) (sh_TT ) rfl in_TT (by decide) wf_TT_15 rfl (fun _ => rfl) dX6_begin_7 ?_
  refine v_iload_n X 1 dX6_begin_10 rfl rfl ?_
  have hv11 : vp_in xa 6 := hw
  refine v_iald (i := iTL) (t0 := 0) X (lt_TL ) (sh_TL ) rfl hv11 dX6_begin_11 ?_
  refine v_put (i := iTT) (k := 4) (x := ((up σ iTT 3 xa) iTL (xa).toNatClampNeg)) (ty := .int) X (lt_TT ) (sh_TT ) rfl in_TT (by decide) tyX6 tyX6_ok nX6 wf_TT_25 rfl rfl rfl rfl rfl (fun _ => Nat.le_of_ble_eq_true rfl) (fun _ _ => rfl) dX6_begin_12 ?_
  refine v_aload_n X 0 dX6_begin_15 rfl rfl ?_
  refine v_dup X dX6_begin_16 rfl ?_
  refine v_getI (i := iTT) (k := 5) X (lt_TT ) (sh_TT ) rfl in_TT (by decide) wf_TT_28 rfl (fun _ => rfl) dX6_begin_17 ?_
  refine v_iconst (v := 1) X dX6_begin_20 (by decide) ?_
  refine v_iadd X dX6_begin_21 ?_
  refine v_put (i := iTT) (k := 5) (x := (((up (up σ iTT 3 xa) iTT 4 ((up σ iTT 3 xa) iTL (xa).toNatClampNeg)) iTT 5) + 1)) (ty := .int) X (lt_TT ) (sh_TT ) rfl in_TT (by decide) tyX6 tyX6_ok nX6 wf_TT_28 rfl rfl rfl rfl rfl (fun _ => Nat.le_of_ble_eq_true rfl) (fun _ _ => rfl) dX6_begin_22 ?_
  have e9 : f_TT_begin xa σ = (up (up (up σ iTT 3 xa) iTT 4 ((up σ iTT 3 xa) iTL (xa).toNatClampNeg)) iTT 5 (((up (up σ iTT 3 xa) iTT 4 ((up σ iTT 3 xa) iTL (xa).toNatClampNeg)) iTT 5) + 1)) := by simp only [f_TT_begin]
  exact v_endV hend dX6_begin_25 e9
theorem I_TT_begin (xa : Int32) {σ : St} (hI : Ic σ) (hw : vp_in xa 6) : Ic (f_TT_begin xa σ) := by
  unfold f_TT_begin
  exact Ic.upTT (Ic.upTT (Ic.cur hI hw) (by decide)) (by decide)
def f_TT_endsWindow (σ : St) : Int32 × St :=
  (if ((up σ iTT 4 ((σ iTT 4) - 1)) iTT 4) ≤ 0 then (1, (f_TT_begin ((if ((up σ iTT 4 ((σ iTT 4) - 1)) iTT 2) ≤ (((up σ iTT 4 ((σ iTT 4) - 1)) iTT 3) + 1) then 0 else (((up σ iTT 4 ((σ iTT 4) - 1)) iTT 3) + 1)) : Int32) (up σ iTT 4 ((σ iTT 4) - 1)))) else (0, (up σ iTT 4 ((σ iTT 4) - 1))))
theorem z_TT_endsWindow (σ : St) : (f_TT_endsWindow σ).1 = 0 ∨ (f_TT_endsWindow σ).1 = 1 := by
  unfold f_TT_endsWindow
  repeat' first | exact Or.inl rfl | exact Or.inr rfl | apply z_ite | split
set_option maxHeartbeats 4000000 in
set_option maxRecDepth 100000 in
theorem c_TT_endsWindow  (σ : St) (hI : Ic σ) : CI l D (tyL cA) rh (rcW rh cA) NW yX6_endsWindow cX6_endsWindow 1 .boolean 1 [.ref (rh iTT)] σ (f_TT_endsWindow σ).1 (f_TT_endsWindow σ).2 := by
  refine CI.of rfl (Nat.le_of_ble_eq_true rfl) (zN (z_TT_endsWindow ..)) ?_
  intro p9 e s m args below meth c A Q X hend
  refine v_lv (lv' := [(0, .ref (rh iTT))]) [0] rfl ?_
  refine v_aload_n X 0 dX6_endsWindow_0 rfl rfl ?_
  refine v_dup X dX6_endsWindow_1 rfl ?_
  refine v_getI (i := iTT) (k := 4) X (lt_TT ) (sh_TT ) rfl in_TT (by decide) wf_TT_25 rfl (fun _ => rfl) dX6_endsWindow_2 ?_
  refine v_iconst (v := 1) X dX6_endsWindow_5 (by decide) ?_
  refine v_isub X dX6_endsWindow_6 ?_
  refine v_put (i := iTT) (k := 4) (x := ((σ iTT 4) - 1)) (ty := .int) X (lt_TT ) (sh_TT ) rfl in_TT (by decide) tyX6 tyX6_ok nX6 wf_TT_25 rfl rfl rfl rfl rfl (fun _ => Nat.le_of_ble_eq_true rfl) (fun _ _ => rfl) dX6_endsWindow_7 ?_
  refine v_aload_n X 0 dX6_endsWindow_10 rfl rfl ?_
  refine v_getI (i := iTT) (k := 4) X (lt_TT ) (sh_TT ) rfl in_TT (by decide) wf_TT_25 rfl (fun _ => rfl) dX6_endsWindow_11 ?_
  refine v_if_le X 19 dX6_endsWindow_14 (by decide) (fun h14 => ?_) (fun h14 => ?_)
  ·
    refine v_aload_n X 0 dX6_endsWindow_19 rfl rfl ?_
    refine v_aload_n X 0 dX6_endsWindow_20 rfl rfl ?_
    refine v_getI (i := iTT) (k := 3) X (lt_TT ) (sh_TT ) rfl in_TT (by decide) wf_TT_22 rfl (fun _ => rfl) dX6_endsWindow_21 ?_
    refine v_iconst (v := 1) X dX6_endsWindow_24 (by decide) ?_
    refine v_iadd X dX6_endsWindow_25 ?_
    refine v_aload_n X 0 dX6_endsWindow_26 rfl rfl ?_
    refine v_getI (i := iTT) (k := 2) X (lt_TT ) (sh_TT ) rfl in_TT (by decide) wf_TT_18 rfl (fun _ => rfl) dX6_endsWindow_27 ?_
    refine v_suff (pc2 := 43) (lv2 := [(0, .ref (rh iTT))]) (st2 := [.int ((if ((up σ iTT 4 ((σ iTT 4) - 1)) iTT 2) ≤ (((up σ iTT 4 ((σ iTT 4) - 1)) iTT 3) + 1) then 0 else (((up σ iTT 4 ((σ iTT 4) - 1)) iTT 3) + 1)) : Int32), .ref (rh iTT)]) (σ2 := (up σ iTT 4 ((σ iTT 4) - 1))) ?_ (fun J30 => ?_)
    rotate_left
    ·
      refine v_icmp_ge X 42 dX6_endsWindow_30 (by decide) (fun h30 => ?_) (fun h30 => ?_)
      ·
        refine v_iconst (v := 0) X dX6_endsWindow_42 (by decide) ?_
        have e9 : (((if ((up σ iTT 4 ((σ iTT 4) - 1)) iTT 2) ≤ (((up σ iTT 4 ((σ iTT 4) - 1)) iTT 3) + 1) then 0 else (((up σ iTT 4 ((σ iTT 4) - 1)) iTT 3) + 1)) : Int32) : Int32) = 0 := by simp only [if_pos h30]
        rw [e9] at J30
        exact J30
      ·
        refine v_aload_n X 0 dX6_endsWindow_33 rfl rfl ?_
        refine v_getI (i := iTT) (k := 3) X (lt_TT ) (sh_TT ) rfl in_TT (by decide) wf_TT_22 rfl (fun _ => rfl) dX6_endsWindow_34 ?_
        refine v_iconst (v := 1) X dX6_endsWindow_37 (by decide) ?_
        refine v_iadd X dX6_endsWindow_38 ?_
        refine v_goto (tgt := 43) X dX6_endsWindow_39 (by decide) ?_
        have e9 : (((if ((up σ iTT 4 ((σ iTT 4) - 1)) iTT 2) ≤ (((up σ iTT 4 ((σ iTT 4) - 1)) iTT 3) + 1) then 0 else (((up σ iTT 4 ((σ iTT 4) - 1)) iTT 3) + 1)) : Int32) : Int32) = (((up σ iTT 4 ((σ iTT 4) - 1)) iTT 3) + 1) := by simp only [if_neg h30]
        rw [e9] at J30
        exact J30
    refine v_callV_CV (rest := []) X [.int ((if ((up σ iTT 4 ((σ iTT 4) - 1)) iTT 2) ≤ (((up σ iTT 4 ((σ iTT 4) - 1)) iTT 3) + 1) then 0 else (((up σ iTT 4 ((σ iTT 4) - 1)) iTT 3) + 1)) : Int32)] (c_TT_begin ((if ((up σ iTT 4 ((σ iTT 4) - 1)) iTT 2) ≤ (((up σ iTT 4 ((σ iTT 4) - 1)) iTT 3) + 1) then 0 else (((up σ iTT 4 ((σ iTT 4) - 1)) iTT 3) + 1)) : Int32) (up σ iTT 4 ((σ iTT 4) - 1)) (ew_in (Ic.upTT hI (by decide)))) mf_TT_begin wi_TT_begin wl_TT_begin (lt_TT ) (sh_TT ) rfl wm_TT_31 rfl ⟨by decide, by decide⟩ (Nat.le_of_ble_eq_true rfl) ⟨by decide, by decide⟩ dX6_endsWindow_43 ?_
    refine v_iconst (v := 1) X dX6_endsWindow_46 (by decide) ?_
    have e9 : f_TT_endsWindow σ = (1, (f_TT_begin ((if ((up σ iTT 4 ((σ iTT 4) - 1)) iTT 2) ≤ (((up σ iTT 4 ((σ iTT 4) - 1)) iTT 3) + 1) then 0 else (((up σ iTT 4 ((σ iTT 4) - 1)) iTT 3) + 1)) : Int32) (up σ iTT 4 ((σ iTT 4) - 1)))) := by simp only [f_TT_endsWindow, if_pos h14]
    exact v_endI hend dX6_endsWindow_47 (by rw [e9]) (by rw [e9])
  ·
    refine v_iconst (v := 0) X dX6_endsWindow_17 (by decide) ?_
    have e9 : f_TT_endsWindow σ = (0, (up σ iTT 4 ((σ iTT 4) - 1))) := by simp only [f_TT_endsWindow, if_neg h14]
    exact v_endI hend dX6_endsWindow_18 (by rw [e9]) (by rw [e9])
theorem I_TT_endsWindow  {σ : St} (hI : Ic σ) : Ic (f_TT_endsWindow σ).2 := by
  unfold f_TT_endsWindow
  exact (ic_ite2 (fun _ => (I_TT_begin ((if ((up σ iTT 4 ((σ iTT 4) - 1)) iTT 2) ≤ (((up σ iTT 4 ((σ iTT 4) - 1)) iTT 3) + 1) then 0 else (((up σ iTT 4 ((σ iTT 4) - 1)) iTT 3) + 1)) : Int32) (Ic.upTT hI (by decide)) (ew_in (Ic.upTT hI (by decide))))) (fun _ => (Ic.upTT hI (by decide))))
def f_TT_start (σ : St) : St :=
  (f_TT_begin 0 (up σ iTT 5 0))
set_option maxHeartbeats 4000000 in
set_option maxRecDepth 100000 in
theorem c_TT_start  (σ : St) : CV l D (tyL cA) rh (rcW rh cA) NW yX6_start cX6_start 1 1 [.ref (rh iTT)] σ (f_TT_start σ) := by
  refine CV.of rfl (Nat.le_of_ble_eq_true rfl) ?_
  intro p9 e s m args below meth c A Q X hend
  refine v_lv (lv' := [(0, .ref (rh iTT))]) [0] rfl ?_
  refine v_aload_n X 0 dX6_start_0 rfl rfl ?_
  refine v_iconst (v := 0) X dX6_start_1 (by decide) ?_
  refine v_put (i := iTT) (k := 5) (x := 0) (ty := .int) X (lt_TT ) (sh_TT ) rfl in_TT (by decide) tyX6 tyX6_ok nX6 wf_TT_28 rfl rfl rfl rfl rfl (fun _ => Nat.le_of_ble_eq_true rfl) (fun _ _ => rfl) dX6_start_2 ?_
  refine v_aload_n X 0 dX6_start_5 rfl rfl ?_
  refine v_iconst (v := 0) X dX6_start_6 (by decide) ?_
  refine v_callV_CV (rest := []) X [.int 0] (c_TT_begin 0 (up σ iTT 5 0) (vin_mk (by decide) (by decide))) mf_TT_begin wi_TT_begin wl_TT_begin (lt_TT ) (sh_TT ) rfl wm_TT_31 rfl ⟨by decide, by decide⟩ (Nat.le_of_ble_eq_true rfl) ⟨by decide, by decide⟩ dX6_start_7 ?_
  have e9 : f_TT_start σ = (f_TT_begin 0 (up σ iTT 5 0)) := by simp only [f_TT_start]
  exact v_endV hend dX6_start_10 e9
theorem I_TT_start  {σ : St} (hI : Ic σ) : Ic (f_TT_start σ) := by
  unfold f_TT_start
  exact (I_TT_begin 0 (Ic.upTT hI (by decide)) (vin_mk (by decide) (by decide)))
end CLS
