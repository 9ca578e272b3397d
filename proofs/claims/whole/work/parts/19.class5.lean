theorem mf_MA_step : MF yX2_step cX2_step 3 none 1 := ⟨gw_of (by decide +kernel) rfl, gw_of (by decide +kernel) rfl, by decide +kernel, by decide +kernel, by decide +kernel⟩
theorem mf_TT_endsWindow : MF yX6_endsWindow cX6_endsWindow 1 (some .boolean) 0 := ⟨gw_of (by decide +kernel) rfl, gw_of (by decide +kernel) rfl, by decide +kernel, by decide +kernel, by decide +kernel⟩
theorem mf_TT_partitionNow : MF yX6_partitionNow cX6_partitionNow 1 (some .int) 0 := ⟨gw_of (by decide +kernel) rfl, gw_of (by decide +kernel) rfl, by decide +kernel, by decide +kernel, by decide +kernel⟩
theorem wf_SM_12 : Cond.fieldLink RX7 12 RX7 "machine" "LSeparationMonitor$Machine;" ∈ gw := gw_of (by decide +kernel) rfl
theorem wf_SM_147 : Cond.fieldLink RX7 147 RX2 "time" "I" ∈ gw := gw_of (by decide +kernel) rfl
theorem wf_SM_162 : Cond.fieldLink RX7 162 RX3 "ready" "Z" ∈ gw := gw_of (by decide +kernel) rfl
theorem wf_SM_165 : Cond.fieldLink RX7 165 RX3 "resting" "Z" ∈ gw := gw_of (by decide +kernel) rfl
theorem wf_SM_21 : Cond.fieldLink RX7 21 RX7 "timetable" "LSeparationMonitor$Timetable;" ∈ gw := gw_of (by decide +kernel) rfl
theorem wf_SM_57 : Cond.fieldLink RX7 57 RX2 "partitions" "[LSeparationMonitor$Partition;" ∈ gw := gw_of (by decide +kernel) rfl
theorem wi_MA_step : Cond.instanceMethod yX2_step ∈ gw := gw_of (by decide +kernel) rfl
theorem wi_TT_endsWindow : Cond.instanceMethod yX6_endsWindow ∈ gw := gw_of (by decide +kernel) rfl
theorem wi_TT_partitionNow : Cond.instanceMethod yX6_partitionNow ∈ gw := gw_of (by decide +kernel) rfl
theorem wl_MA_step : Cond.selects yX2_step.cls yX2_step yX2_step ∈ gw := gw_of (by decide +kernel) rfl
theorem wl_TT_endsWindow : Cond.selects yX6_endsWindow.cls yX6_endsWindow yX6_endsWindow ∈ gw := gw_of (by decide +kernel) rfl
theorem wl_TT_partitionNow : Cond.selects yX6_partitionNow.cls yX6_partitionNow yX6_partitionNow ∈ gw := gw_of (by decide +kernel) rfl
theorem wm_SM_159 : Cond.methodLink RX7 159 yX6_partitionNow ∈ gw := gw_of (by decide +kernel) rfl
theorem wm_SM_168 : Cond.methodLink RX7 168 yX2_step ∈ gw := gw_of (by decide +kernel) rfl
theorem wm_SM_172 : Cond.methodLink RX7 172 yX6_endsWindow ∈ gw := gw_of (by decide +kernel) rfl
section CLS
variable {l : Launch} {D : va_G} {rh : Nat → Nat} {cA : Nat → ClassId}
def f_SM_tick (σ : St) : Int32 × St :=
  (if ((if ((up σ iMA 5 ((σ iMA 5) + 1)) (iP ((f_TT_partitionNow (up σ iMA 5 ((σ iMA 5) + 1)))).toNatClampNeg) 6) = 0 then 0 else (if ((up σ iMA 5 ((σ iMA 5) + 1)) (iP ((f_TT_partitionNow (up σ iMA 5 ((σ iMA 5) + 1)))).toNatClampNeg) 7) = 0 then 1 else 0)) : Int32) = 0 then (if (f_TT_endsWindow (up σ iMA 5 ((σ iMA 5) + 1))).1 = 0 then (((if ((up σ iMA 5 ((σ iMA 5) + 1)) (iP ((f_TT_partitionNow (up σ iMA 5 ((σ iMA 5) + 1)))).toNatClampNeg) 6) = 0 then 0 else (if ((up σ iMA 5 ((σ iMA 5) + 1)) (iP ((f_TT_partitionNow (up σ iMA 5 ((σ iMA 5) + 1)))).toNatClampNeg) 7) = 0 then 1 else 0)) : Int32), (f_TT_endsWindow (up σ iMA 5 ((σ iMA 5) + 1))).2) else (((if ((up σ iMA 5 ((σ iMA 5) + 1)) (iP ((f_TT_partitionNow (up σ iMA 5 ((σ iMA 5) + 1)))).toNatClampNeg) 6) = 0 then 0 else (if ((up σ iMA 5 ((σ iMA 5) + 1)) (iP ((f_TT_partitionNow (up σ iMA 5 ((σ iMA 5) + 1)))).toNatClampNeg) 7) = 0 then 1 else 0)) : Int32), (up (f_TT_endsWindow (up σ iMA 5 ((σ iMA 5) + 1))).2 (iP ((f_TT_partitionNow (f_TT_endsWindow (up σ iMA 5 ((σ iMA 5) + 1))).2)).toNatClampNeg) 7 0))) else (if (f_TT_endsWindow (f_MA_step ((f_TT_partitionNow (up σ iMA 5 ((σ iMA 5) + 1)))).toNatClampNeg (up σ iMA 5 ((σ iMA 5) + 1)))).1 = 0 then (((if ((up σ iMA 5 ((σ iMA 5) + 1)) (iP ((f_TT_partitionNow (up σ iMA 5 ((σ iMA 5) + 1)))).toNatClampNeg) 6) = 0 then 0 else (if ((up σ iMA 5 ((σ iMA 5) + 1)) (iP ((f_TT_partitionNow (up σ iMA 5 ((σ iMA 5) + 1)))).toNatClampNeg) 7) = 0 then 1 else 0)) : Int32), (f_TT_endsWindow (f_MA_step ((f_TT_partitionNow (up σ iMA 5 ((σ iMA 5) + 1)))).toNatClampNeg (up σ iMA 5 ((σ iMA 5) + 1)))).2) else (((if ((up σ iMA 5 ((σ iMA 5) + 1)) (iP ((f_TT_partitionNow (up σ iMA 5 ((σ iMA 5) + 1)))).toNatClampNeg) 6) = 0 then 0 else (if ((up σ iMA 5 ((σ iMA 5) + 1)) (iP ((f_TT_partitionNow (up σ iMA 5 ((σ iMA 5) + 1)))).toNatClampNeg) 7) = 0 then 1 else 0)) : Int32), (up (f_TT_endsWindow (f_MA_step ((f_TT_partitionNow (up σ iMA 5 ((σ iMA 5) + 1)))).toNatClampNeg (up σ iMA 5 ((σ iMA 5) + 1)))).2 (iP ((f_TT_partitionNow (f_TT_endsWindow (f_MA_step ((f_TT_partitionNow (up σ iMA 5 ((σ iMA 5) + 1)))).toNatClampNeg (up σ iMA 5 ((σ iMA 5) + 1)))).2)).toNatClampNeg) 7 0))))
theorem z_ite2 {c : Prop} [Decidable c] {α : Type} {a b : Int32 × α} (ha : a.1 = 0 ∨ a.1 = 1) (hb : b.1 = 0 ∨ b.1 = 1) : (if c then a else b).1 = 0 ∨ (if c then a else b).1 = 1 := by
  split
  · exact ha
  · exact hb
theorem z_tk {c d : Prop} [Decidable c] [Decidable d] : ((if c then 0 else (if d then 1 else 0)) : Int32) = 0 ∨ ((if c then 0 else (if d then 1 else 0)) : Int32) = 1 := z_ite (Or.inl rfl) (z_ite (Or.inr rfl) (Or.inl rfl))
theorem z_SM_tick (σ : St) : (f_SM_tick σ).1 = 0 ∨ (f_SM_tick σ).1 = 1 := by
  unfold f_SM_tick
  exact z_ite2 (z_ite2 z_tk z_tk) (z_ite2 z_tk z_tk)
set_option maxHeartbeats 4000000 in
set_option maxRecDepth 100000 in
theorem c_SM_tick  (σ : St) (hI : Ic σ) : CI l D (tyL cA) rh (rcW rh cA) NW yX7_tick cX7_tick 3 .boolean 5 [.ref (rh iSM)] σ (f_SM_tick σ).1 (f_SM_tick σ).2 := by
  refine CI.of rfl (Nat.le_of_ble_eq_true rfl) (zN (z_SM_tick ..)) ?_
  intro p9 e s m args below meth c A Q X hend
  refine v_lv (lv' := [(0, .ref (rh iSM))]) [0] rfl ?_
  refine v_aload_n X 0 dX7_tick_0 rfl rfl ?_
  refine v_getR (j := iMA) (i := iSM) (k := 0) X (lt_SM ) (sh_SM ) rfl in_SM (by decide) wf_SM_12 rfl (fun _ => rfl) dX7_tick_1 ?_
  refine v_dup X dX7_tick_4 rfl ?_
  refine v_getI (i := iMA) (k := 5) X (lt_MA ) (sh_MA ) rfl in_MA (by decide) wf_SM_147 rfl (fun _ => rfl) dX7_tick_5 ?_
  refine v_iconst (v := 1) X dX7_tick_8 (by decide) ?_
  refine v_iadd X dX7_tick_9 ?_
  refine v_put (i := iMA) (k := 5) (x := ((σ iMA 5) + 1)) (ty := .int) X (lt_MA ) (sh_MA ) rfl in_MA (by decide) tyX2 tyX2_ok nX2 wf_SM_147 rfl rfl rfl rfl rfl (fun _ => Nat.le_of_ble_eq_true rfl) (fun _ _ => rfl) dX7_tick_10 ?_
  generalize hg10 : (up σ iMA 5 ((σ iMA 5) + 1)) = g10
  have hI10 : Ic g10 := by rw [← hg10]; exact (Ic.upMA hI)
  refine v_aload_n X 0 dX7_tick_13 rfl rfl ?_
  refine v_getR (j := iMA) (i := iSM) (k := 0) X (lt_SM ) (sh_SM ) rfl in_SM (by decide) wf_SM_12 rfl (fun _ => rfl) dX7_tick_14 ?_
  refine v_getR (j := iAP) (i := iMA) (k := 2) X (lt_MA ) (sh_MA ) rfl in_MA (by decide) wf_SM_57 rfl (fun _ => rfl) dX7_tick_17 ?_
  refine v_aload_n X 0 dX7_tick_20 rfl rfl ?_
  refine v_getR (j := iTT) (i := iSM) (k := 1) X (lt_SM ) (sh_SM ) rfl in_SM (by decide) wf_SM_21 rfl (fun _ => rfl) dX7_tick_21 ?_
  refine v_callV_CI (rest := [.ref (rh iAP)]) X [] (c_TT_partitionNow g10 hI10) mf_TT_partitionNow wi_TT_partitionNow wl_TT_partitionNow (lt_TT ) (sh_TT ) rfl wm_SM_159 rfl ⟨by decide, by decide⟩ (Nat.le_of_ble_eq_true rfl) ⟨by decide, by decide⟩ dX7_tick_24 ?_
  have hv27 : vp_in (f_TT_partitionNow g10) 4 := (pn_in hI10)
  refine v_aald (i := iAP) (t0 := 1) (g := iP) X (lt_APT ) (sh_APT ) rfl hv27 dX7_tick_27 ?_
  refine v_astore_n (lv' := [(1, .ref (rh (iP ((f_TT_partitionNow g10)).toNatClampNeg))), (0, .ref (rh iSM))]) X dX7_tick_28 rfl (by decide) rfl ?_
  refine v_aload_n X 0 dX7_tick_29 rfl rfl ?_
  refine v_getI (i := (iP ((f_TT_partitionNow g10)).toNatClampNeg)) (k := 6) X (lt_PT (vin_lt hv27)) (sh_PT (vin_lt hv27)) rfl in_PT (by decide) wf_SM_162 rfl (fun _ => rfl) dX7_tick_30 ?_
  refine v_suff (pc2 := 48) (lv2 := [(1, .ref (rh (iP ((f_TT_partitionNow g10)).toNatClampNeg))), (0, .ref (rh iSM))]) (st2 := [.int ((if (g10 (iP ((f_TT_partitionNow g10)).toNatClampNeg) 6) = 0 then 0 else (if (g10 (iP ((f_TT_partitionNow g10)).toNatClampNeg) 7) = 0 then 1 else 0)) : Int32)]) (σ2 := g10) ?_ (fun J33 => ?_)
  rotate_left
  ·
    refine v_if_eq X 47 dX7_tick_33 (by decide) (fun h33 => ?_) (fun h33 => ?_)
    ·
      refine v_iconst (v := 0) X dX7_tick_47 (by decide) ?_
      have e9 : (((if (g10 (iP ((f_TT_partitionNow g10)).toNatClampNeg) 6) = 0 then 0 else (if (g10 (iP ((f_TT_partitionNow g10)).toNatClampNeg) 7) = 0 then 1 else 0)) : Int32) : Int32) = 0 := by simp only [if_pos h33]
      rw [e9] at J33
      exact J33
    ·
      refine v_aload_n X 0 dX7_tick_36 rfl rfl ?_
      refine v_getI (i := (iP ((f_TT_partitionNow g10)).toNatClampNeg)) (k := 7) X (lt_PT (vin_lt hv27)) (sh_PT (vin_lt hv27)) rfl in_PT (by decide) wf_SM_165 rfl (fun _ => rfl) dX7_tick_37 ?_
      refine v_if_ne X 47 dX7_tick_40 (by decide) (fun h40 => ?_) (fun h40 => ?_)
      ·
        refine v_iconst (v := 0) X dX7_tick_47 (by decide) ?_
        have e9 : (((if (g10 (iP ((f_TT_partitionNow g10)).toNatClampNeg) 6) = 0 then 0 else (if (g10 (iP ((f_TT_partitionNow g10)).toNatClampNeg) 7) = 0 then 1 else 0)) : Int32) : Int32) = 0 := by simp only [if_neg h33, if_neg h40]
        rw [e9] at J33
        exact J33
      ·
        refine v_iconst (v := 1) X dX7_tick_43 (by decide) ?_
        refine v_goto (tgt := 48) X dX7_tick_44 (by decide) ?_
        have e9 : (((if (g10 (iP ((f_TT_partitionNow g10)).toNatClampNeg) 6) = 0 then 0 else (if (g10 (iP ((f_TT_partitionNow g10)).toNatClampNeg) 7) = 0 then 1 else 0)) : Int32) : Int32) = 1 := by simp only [if_neg h33, if_pos h40]
        rw [e9] at J33
        exact J33
  refine v_istore_n (lv' := [(2, .int ((if (g10 (iP ((f_TT_partitionNow g10)).toNatClampNeg) 6) = 0 then 0 else (if (g10 (iP ((f_TT_partitionNow g10)).toNatClampNeg) 7) = 0 then 1 else 0)) : Int32)), (1, .ref (rh (iP ((f_TT_partitionNow g10)).toNatClampNeg))), (0, .ref (rh iSM))]) X dX7_tick_48 rfl (by decide) rfl ?_
  refine v_iload_n X 0 dX7_tick_49 rfl rfl ?_
  refine v_if_eq X 61 dX7_tick_50 (by decide) (fun h50 => ?_) (fun h50 => ?_)
  ·
    refine v_aload_n X 2 dX7_tick_61 rfl rfl ?_
    refine v_getR (j := iTT) (i := iSM) (k := 1) X (lt_SM ) (sh_SM ) rfl in_SM (by decide) wf_SM_21 rfl (fun _ => rfl) dX7_tick_62 ?_
    refine v_callV_CI (rest := []) X [] (c_TT_endsWindow g10 hI10) mf_TT_endsWindow wi_TT_endsWindow wl_TT_endsWindow (lt_TT ) (sh_TT ) rfl wm_SM_172 rfl ⟨by decide, by decide⟩ (Nat.le_of_ble_eq_true rfl) ⟨by decide, by decide⟩ dX7_tick_65 ?_
    generalize hg65 : (f_TT_endsWindow g10) = g65
    have hI65 : Ic g65.2 := by rw [← hg65]; exact (I_TT_endsWindow  hI10)
    refine v_if_eq X 90 dX7_tick_68 (by decide) (fun h68 => ?_) (fun h68 => ?_)
    ·
      refine v_iload_n X 0 dX7_tick_90 rfl rfl ?_
      have e9 : f_SM_tick σ = (((if (g10 (iP ((f_TT_partitionNow g10)).toNatClampNeg) 6) = 0 then 0 else (if (g10 (iP ((f_TT_partitionNow g10)).toNatClampNeg) 7) = 0 then 1 else 0)) : Int32), g65.2) := by subst hg10; subst hg65; simp only [f_SM_tick, if_pos h50, if_pos h68]
      exact v_endI hend dX7_tick_91 (by rw [e9]) (by rw [e9])
    ·
      refine v_aload_n X 2 dX7_tick_71 rfl rfl ?_
      refine v_getR (j := iMA) (i := iSM) (k := 0) X (lt_SM ) (sh_SM ) rfl in_SM (by decide) wf_SM_12 rfl (fun _ => rfl) dX7_tick_72 ?_
      refine v_getR (j := iAP) (i := iMA) (k := 2) X (lt_MA ) (sh_MA ) rfl in_MA (by decide) wf_SM_57 rfl (fun _ => rfl) dX7_tick_75 ?_
      refine v_aload_n X 2 dX7_tick_78 rfl rfl ?_
      refine v_getR (j := iTT) (i := iSM) (k := 1) X (lt_SM ) (sh_SM ) rfl in_SM (by decide) wf_SM_21 rfl (fun _ => rfl) dX7_tick_79 ?_
      refine v_callV_CI (rest := [.ref (rh iAP)]) X [] (c_TT_partitionNow g65.2 hI65) mf_TT_partitionNow wi_TT_partitionNow wl_TT_partitionNow (lt_TT ) (sh_TT ) rfl wm_SM_159 rfl ⟨by decide, by decide⟩ (Nat.le_of_ble_eq_true rfl) ⟨by decide, by decide⟩ dX7_tick_82 ?_
      have hv85 : vp_in (f_TT_partitionNow g65.2) 4 := (pn_in hI65)
      refine v_aald (i := iAP) (t0 := 1) (g := iP) X (lt_APT ) (sh_APT ) rfl hv85 dX7_tick_85 ?_
      refine v_iconst (v := 0) X dX7_tick_86 (by decide) ?_
      refine v_put (i := (iP ((f_TT_partitionNow g65.2)).toNatClampNeg)) (k := 7) (x := 0) (ty := .boolean) X (lt_PT (vin_lt hv85)) (sh_PT (vin_lt hv85)) rfl in_PT (by decide) tyX3 tyX3_ok nX3 wf_SM_165 rfl rfl rfl (zN (Or.inl rfl)) (zF (Or.inl rfl)) (fun _ => Nat.le_of_ble_eq_true rfl) (fun _ _ => rfl) dX7_tick_87 ?_
      generalize hg87 : (up g65.2 (iP ((f_TT_partitionNow g65.2)).toNatClampNeg) 7 0) = g87
      have hI87 : Ic g87 := by rw [← hg87]; exact (Ic.upPT hI65 (by decide))
      refine v_iload_n X 0 dX7_tick_90 rfl rfl ?_
      have e9 : f_SM_tick σ = (((if (g10 (iP ((f_TT_partitionNow g10)).toNatClampNeg) 6) = 0 then 0 else (if (g10 (iP ((f_TT_partitionNow g10)).toNatClampNeg) 7) = 0 then 1 else 0)) : Int32), g87) := by subst hg10; subst hg65; subst hg87; simp only [f_SM_tick, if_pos h50, if_neg h68]
      exact v_endI hend dX7_tick_91 (by rw [e9]) (by rw [e9])
  ·
    refine v_aload_n X 2 dX7_tick_53 rfl rfl ?_
    refine v_getR (j := iMA) (i := iSM) (k := 0) X (lt_SM ) (sh_SM ) rfl in_SM (by decide) wf_SM_12 rfl (fun _ => rfl) dX7_tick_54 ?_
    refine v_aload_n X 1 dX7_tick_57 rfl rfl ?_
    refine v_callV_CV (rest := []) X [.ref (rh (iP ((f_TT_partitionNow g10)).toNatClampNeg))] (c_MA_step (vin_lt hv27) g10 hI10) mf_MA_step wi_MA_step wl_MA_step (lt_MA ) (sh_MA ) rfl wm_SM_168 rfl ⟨by decide, by decide⟩ (Nat.le_of_ble_eq_true rfl) ⟨by decide, by decide⟩ dX7_tick_58 ?_
    generalize hg58 : (f_MA_step ((f_TT_partitionNow g10)).toNatClampNeg g10) = g58
    have hI58 : Ic g58 := by rw [← hg58]; exact (I_MA_step ((f_TT_partitionNow g10)).toNatClampNeg hI10)
    refine v_aload_n X 2 dX7_tick_61 rfl rfl ?_
    refine v_getR (j := iTT) (i := iSM) (k := 1) X (lt_SM ) (sh_SM ) rfl in_SM (by decide) wf_SM_21 rfl (fun _ => rfl) dX7_tick_62 ?_
    refine v_callV_CI (rest := []) X [] (c_TT_endsWindow g58 hI58) mf_TT_endsWindow wi_TT_endsWindow wl_TT_endsWindow (lt_TT ) (sh_TT ) rfl wm_SM_172 rfl ⟨by decide, by decide⟩ (Nat.le_of_ble_eq_true rfl) ⟨by decide, by decide⟩ dX7_tick_65 ?_
    generalize hg65 : (f_TT_endsWindow g58) = g65
    have hI65 : Ic g65.2 := by rw [← hg65]; exact (I_TT_endsWindow  hI58)
    refine v_if_eq X 90 dX7_tick_68 (by decide) (fun h68 => ?_) (fun h68 => ?_)
    ·
      refine v_iload_n X 0 dX7_tick_90 rfl rfl ?_
      have e9 : f_SM_tick σ = (((if (g10 (iP ((f_TT_partitionNow g10)).toNatClampNeg) 6) = 0 then 0 else (if (g10 (iP ((f_TT_partitionNow g10)).toNatClampNeg) 7) = 0 then 1 else 0)) : Int32), g65.2) := by subst hg10; subst hg58; subst hg65; simp only [f_SM_tick, if_neg h50, if_pos h68]
      exact v_endI hend dX7_tick_91 (by rw [e9]) (by rw [e9])
    ·
      refine v_aload_n X 2 dX7_tick_71 rfl rfl ?_
      refine v_getR (j := iMA) (i := iSM) (k := 0) X (lt_SM ) (sh_SM ) rfl in_SM (by decide) wf_SM_12 rfl (fun _ => rfl) dX7_tick_72 ?_
      refine v_getR (j := iAP) (i := iMA) (k := 2) X (lt_MA ) (sh_MA ) rfl in_MA (by decide) wf_SM_57 rfl (fun _ => rfl) dX7_tick_75 ?_
      refine v_aload_n X 2 dX7_tick_78 rfl rfl ?_
      refine v_getR (j := iTT) (i := iSM) (k := 1) X (lt_SM ) (sh_SM ) rfl in_SM (by decide) wf_SM_21 rfl (fun _ => rfl) dX7_tick_79 ?_
      refine v_callV_CI (rest := [.ref (rh iAP)]) X [] (c_TT_partitionNow g65.2 hI65) mf_TT_partitionNow wi_TT_partitionNow wl_TT_partitionNow (lt_TT ) (sh_TT ) rfl wm_SM_159 rfl ⟨by decide, by decide⟩ (Nat.le_of_ble_eq_true rfl) ⟨by decide, by decide⟩ dX7_tick_82 ?_
      have hv85 : vp_in (f_TT_partitionNow g65.2) 4 := (pn_in hI65)
      refine v_aald (i := iAP) (t0 := 1) (g := iP) X (lt_APT ) (sh_APT ) rfl hv85 dX7_tick_85 ?_
      refine v_iconst (v := 0) X dX7_tick_86 (by decide) ?_
      refine v_put (i := (iP ((f_TT_partitionNow g65.2)).toNatClampNeg)) (k := 7) (x := 0) (ty := .boolean) X (lt_PT (vin_lt hv85)) (sh_PT (vin_lt hv85)) rfl in_PT (by decide) tyX3 tyX3_ok nX3 wf_SM_165 rfl rfl rfl (zN (Or.inl rfl)) (zF (Or.inl rfl)) (fun _ => Nat.le_of_ble_eq_true rfl) (fun _ _ => rfl) dX7_tick_87 ?_
      generalize hg87 : (up g65.2 (iP ((f_TT_partitionNow g65.2)).toNatClampNeg) 7 0) = g87
      have hI87 : Ic g87 := by rw [← hg87]; exact (Ic.upPT hI65 (by decide))
      refine v_iload_n X 0 dX7_tick_90 rfl rfl ?_
      have e9 : f_SM_tick σ = (((if (g10 (iP ((f_TT_partitionNow g10)).toNatClampNeg) 6) = 0 then 0 else (if (g10 (iP ((f_TT_partitionNow g10)).toNatClampNeg) 7) = 0 then 1 else 0)) : Int32), g87) := by subst hg10; subst hg58; subst hg65; subst hg87; simp only [f_SM_tick, if_neg h50, if_neg h68]
      exact v_endI hend dX7_tick_91 (by rw [e9]) (by rw [e9])
theorem I_SM_tick  {σ : St} (hI : Ic σ) : Ic (f_SM_tick σ).2 := by
  unfold f_SM_tick
  exact (ic_ite2 (fun _ => (ic_ite2 (fun _ => (I_TT_endsWindow  (Ic.upMA hI))) (fun _ => (Ic.upPT (I_TT_endsWindow  (Ic.upMA hI)) (by decide))))) (fun _ => (ic_ite2 (fun _ => (I_TT_endsWindow  (I_MA_step ((f_TT_partitionNow (up σ iMA 5 ((σ iMA 5) + 1)))).toNatClampNeg (Ic.upMA hI)))) (fun _ => (Ic.upPT (I_TT_endsWindow  (I_MA_step ((f_TT_partitionNow (up σ iMA 5 ((σ iMA 5) + 1)))).toNatClampNeg (Ic.upMA hI))) (by decide))))))
end CLS
