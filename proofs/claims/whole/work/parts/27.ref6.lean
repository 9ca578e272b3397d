theorem mf_MO_fault : MF yX8_fault cX8_fault 4 none 2 := ⟨gw_of (by decide +kernel) rfl, gw_of (by decide +kernel) rfl, by decide +kernel, by decide +kernel, by decide +kernel⟩
theorem mf_MO_known : MF yX8_known cX8_known 8 (some .boolean) 1 := ⟨gw_of (by decide +kernel) rfl, gw_of (by decide +kernel) rfl, by decide +kernel, by decide +kernel, by decide +kernel⟩
theorem mf_MO_perform : MF yX8_perform cX8_perform 11 (some .int) 2 := ⟨gw_of (by decide +kernel) rfl, gw_of (by decide +kernel) rfl, by decide +kernel, by decide +kernel, by decide +kernel⟩
theorem wi_MO_fault : Cond.instanceMethod yX8_fault ∈ gw := gw_of (by decide +kernel) rfl
theorem wi_MO_known : Cond.instanceMethod yX8_known ∈ gw := gw_of (by decide +kernel) rfl
theorem wi_MO_perform : Cond.instanceMethod yX8_perform ∈ gw := gw_of (by decide +kernel) rfl
theorem wl_MO_fault : Cond.selects yX8_fault.cls yX8_fault yX8_fault ∈ gw := gw_of (by decide +kernel) rfl
theorem wl_MO_known : Cond.selects yX8_known.cls yX8_known yX8_known ∈ gw := gw_of (by decide +kernel) rfl
theorem wl_MO_perform : Cond.selects yX8_perform.cls yX8_perform yX8_perform ∈ gw := gw_of (by decide +kernel) rfl
theorem wm_MO_166 : Cond.methodLink RX8 166 yX8_known ∈ gw := gw_of (by decide +kernel) rfl
theorem wm_MO_170 : Cond.methodLink RX8 170 yX8_perform ∈ gw := gw_of (by decide +kernel) rfl
theorem wm_MO_173 : Cond.methodLink RX8 173 yX8_fault ∈ gw := gw_of (by decide +kernel) rfl
section CLS
variable {l : Launch} {D : va_G} {rh : Nat → Nat} {cA : Nat → ClassId}
def f_MO_step (xa : Int32) (σ : St) : St :=
  (if (((up σ i_begun (xa).toNatClampNeg ((σ i_begun (xa).toNatClampNeg) + 1)) i_pc (xa).toNatClampNeg) &&& 3) = 0 then (if (f_MO_inside xa ((up σ i_begun (xa).toNatClampNeg ((σ i_begun (xa).toNatClampNeg) + 1)) i_pc (xa).toNatClampNeg) (up σ i_begun (xa).toNatClampNeg ((σ i_begun (xa).toNatClampNeg) + 1))) = 0 then (f_MO_fault xa 3 (up σ i_begun (xa).toNatClampNeg ((σ i_begun (xa).toNatClampNeg) + 1))) else (if (f_MO_known ((up σ i_begun (xa).toNatClampNeg ((σ i_begun (xa).toNatClampNeg) + 1)) i_memory ((((up σ i_begun (xa).toNatClampNeg ((σ i_begun (xa).toNatClampNeg) + 1)) i_from (xa).toNatClampNeg) + (((up σ i_begun (xa).toNatClampNeg ((σ i_begun (xa).toNatClampNeg) + 1)) i_pc (xa).toNatClampNeg) / 4))).toNatClampNeg)) = 0 then (f_MO_fault xa 1 (up σ i_begun (xa).toNatClampNeg ((σ i_begun (xa).toNatClampNeg) + 1))) else (if (f_MO_perform xa ((up σ i_begun (xa).toNatClampNeg ((σ i_begun (xa).toNatClampNeg) + 1)) i_memory ((((up σ i_begun (xa).toNatClampNeg ((σ i_begun (xa).toNatClampNeg) + 1)) i_from (xa).toNatClampNeg) + (((up σ i_begun (xa).toNatClampNeg ((σ i_begun (xa).toNatClampNeg) + 1)) i_pc (xa).toNatClampNeg) / 4))).toNatClampNeg) (up σ i_begun (xa).toNatClampNeg ((σ i_begun (xa).toNatClampNeg) + 1))).1 = 0 then (f_MO_perform xa ((up σ i_begun (xa).toNatClampNeg ((σ i_begun (xa).toNatClampNeg) + 1)) i_memory ((((up σ i_begun (xa).toNatClampNeg ((σ i_begun (xa).toNatClampNeg) + 1)) i_from (xa).toNatClampNeg) + (((up σ i_begun (xa).toNatClampNeg ((σ i_begun (xa).toNatClampNeg) + 1)) i_pc (xa).toNatClampNeg) / 4))).toNatClampNeg) (up σ i_begun (xa).toNatClampNeg ((σ i_begun (xa).toNatClampNeg) + 1))).2 else (f_MO_fault xa (f_MO_perform xa ((up σ i_begun (xa).toNatClampNeg ((σ i_begun (xa).toNatClampNeg) + 1)) i_memory ((((up σ i_begun (xa).toNatClampNeg ((σ i_begun (xa).toNatClampNeg) + 1)) i_from (xa).toNatClampNeg) + (((up σ i_begun (xa).toNatClampNeg ((σ i_begun (xa).toNatClampNeg) + 1)) i_pc (xa).toNatClampNeg) / 4))).toNatClampNeg) (up σ i_begun (xa).toNatClampNeg ((σ i_begun (xa).toNatClampNeg) + 1))).1 (f_MO_perform xa ((up σ i_begun (xa).toNatClampNeg ((σ i_begun (xa).toNatClampNeg) + 1)) i_memory ((((up σ i_begun (xa).toNatClampNeg ((σ i_begun (xa).toNatClampNeg) + 1)) i_from (xa).toNatClampNeg) + (((up σ i_begun (xa).toNatClampNeg ((σ i_begun (xa).toNatClampNeg) + 1)) i_pc (xa).toNatClampNeg) / 4))).toNatClampNeg) (up σ i_begun (xa).toNatClampNeg ((σ i_begun (xa).toNatClampNeg) + 1))).2)))) else (f_MO_fault xa 2 (up σ i_begun (xa).toNatClampNeg ((σ i_begun (xa).toNatClampNeg) + 1))))
set_option maxHeartbeats 4000000 in
set_option maxRecDepth 100000 in
theorem c_MO_step (xa : Int32) (σ : St) (hI : Im σ) (hq : vp_in xa 4) : CV l D (tyL cA) rh (rcW rh cA) NW yX8_step cX8_step 4 3 [.ref (rh iMO), .int xa] σ (f_MO_step xa σ) := by
  refine CV.of rfl (Nat.le_of_ble_eq_true rfl) ?_
  intro p9 e s m args below meth c A Q X hend
  refine v_lv (lv' := [(0, .ref (rh iMO)), (1, .int xa)]) [0, 1] rfl ?_
  refine v_aload_n X 0 dX8_step_0 rfl rfl ?_
  refine v_getR (j := i_begun) (i := iMO) (k := 10) X (lt_MO ) (sh_MO ) rfl in_MO (by decide) wf_MO_40 rfl (fun _ => rfl) dX8_step_1 ?_
  refine v_iload_n X 1 dX8_step_4 rfl rfl ?_
  refine v_dup2 X dX8_step_5 rfl rfl ?_
  have hv6 : vp_in xa 4 := hq
  refine v_iald (i := i_begun) (t0 := 0) X (lt_m_begun ) (sh_m_begun ) rfl hv6 dX8_step_6 ?_
  refine v_iconst (v := 1) X dX8_step_7 (by decide) ?_
  refine v_iadd X dX8_step_8 ?_
  have hv9 : vp_in xa 4 := hq
  refine v_iast (i := i_begun) (t0 := 0) X (lt_m_begun ) (sh_m_begun ) rfl hv9 dX8_step_9 ?_
  generalize hg9 : (up σ i_begun (xa).toNatClampNeg ((σ i_begun (xa).toNatClampNeg) + 1)) = g9
  have hI9 : Im g9 := by rw [← hg9]; exact (Im.upA hI (by decide))
  refine v_iconst (v := 0) X dX8_step_10 (by decide) ?_
  refine v_istore_n (lv' := [(2, .int 0), (0, .ref (rh iMO)), (1, .int xa)]) X dX8_step_11 rfl (by decide) rfl ?_
  refine v_aload_n X 1 dX8_step_12 rfl rfl ?_
  refine v_getR (j := i_pc) (i := iMO) (k := 6) X (lt_MO ) (sh_MO ) rfl in_MO (by decide) wf_MO_28 rfl (fun _ => rfl) dX8_step_13 ?_
  refine v_iload_n X 2 dX8_step_16 rfl rfl ?_
  have hv17 : vp_in xa 4 := hq
  refine v_iald (i := i_pc) (t0 := 0) X (lt_m_pc ) (sh_m_pc ) rfl hv17 dX8_step_17 ?_
  refine v_iconst (v := 3) X dX8_step_18 (by decide) ?_
  refine v_iand X dX8_step_19 ?_
  refine v_if_eq X 28 dX8_step_20 (by decide) (fun h20 => ?_) (fun h20 => ?_)
  ·
    refine v_aload_n X 1 dX8_step_28 rfl rfl ?_
    refine v_iload_n X 2 dX8_step_29 rfl rfl ?_
    refine v_aload_n X 1 dX8_step_30 rfl rfl ?_
    refine v_getR (j := i_pc) (i := iMO) (k := 6) X (lt_MO ) (sh_MO ) rfl in_MO (by decide) wf_MO_28 rfl (fun _ => rfl) dX8_step_31 ?_
    refine v_iload_n X 2 dX8_step_34 rfl rfl ?_
    have hv35 : vp_in xa 4 := hq
    refine v_iald (i := i_pc) (t0 := 0) X (lt_m_pc ) (sh_m_pc ) rfl hv35 dX8_step_35 ?_
    refine v_callV_CI (rest := []) X [.int xa, .int (g9 i_pc (xa).toNatClampNeg)] (c_MO_inside xa (g9 i_pc (xa).toNatClampNeg) g9 (by assumption)) mf_MO_inside wi_MO_inside wl_MO_inside (lt_MO ) (sh_MO ) rfl wm_MO_140 rfl ⟨by decide, by decide⟩ (Nat.le_of_ble_eq_true rfl) ⟨by decide, by decide⟩ dX8_step_36 ?_
    refine v_if_ne X 47 dX8_step_39 (by decide) (fun h39 => ?_) (fun h39 => ?_)
    ·
      refine v_aload_n X 1 dX8_step_47 rfl rfl ?_
      refine v_getR (j := i_memory) (i := iMO) (k := 0) X (lt_MO ) (sh_MO ) rfl in_MO (by decide) wf_MO_7 rfl (fun _ => rfl) dX8_step_48 ?_
      refine v_aload_n X 1 dX8_step_51 rfl rfl ?_
      refine v_getR (j := i_from) (i := iMO) (k := 3) X (lt_MO ) (sh_MO ) rfl in_MO (by decide) wf_MO_19 rfl (fun _ => rfl) dX8_step_52 ?_
      refine v_iload_n X 2 dX8_step_55 rfl rfl ?_
      have hv56 : vp_in xa 4 := hq
      refine v_iald (i := i_from) (t0 := 0) X (lt_m_from ) (sh_m_from ) rfl hv56 dX8_step_56 ?_
      refine v_aload_n X 1 dX8_step_57 rfl rfl ?_
      refine v_getR (j := i_pc) (i := iMO) (k := 6) X (lt_MO ) (sh_MO ) rfl in_MO (by decide) wf_MO_28 rfl (fun _ => rfl) dX8_step_58 ?_
      refine v_iload_n X 2 dX8_step_61 rfl rfl ?_
      have hv62 : vp_in xa 4 := hq
      refine v_iald (i := i_pc) (t0 := 0) X (lt_m_pc ) (sh_m_pc ) rfl hv62 dX8_step_62 ?_
      refine v_iconst (v := 4) X dX8_step_63 (by decide) ?_
      refine v_idiv X (by decide) dX8_step_64 ?_
      refine v_iadd X dX8_step_65 ?_
      have hv66 : vp_in ((g9 i_from (xa).toNatClampNeg) + ((g9 i_pc (xa).toNatClampNeg) / 4)) 96 := (ins_in hI9 hq h39)
      refine v_iald (i := i_memory) (t0 := 0) X (lt_m_memory ) (sh_m_memory ) rfl hv66 dX8_step_66 ?_
      refine v_istore_n (lv' := [(3, .int (g9 i_memory (((g9 i_from (xa).toNatClampNeg) + ((g9 i_pc (xa).toNatClampNeg) / 4))).toNatClampNeg)), (2, .int 0), (0, .ref (rh iMO)), (1, .int xa)]) X dX8_step_67 rfl (by decide) rfl ?_
      refine v_aload_n X 2 dX8_step_68 rfl rfl ?_
      refine v_iload_n X 0 dX8_step_69 rfl rfl ?_
      refine v_callV_CI (rest := []) X [.int (g9 i_memory (((g9 i_from (xa).toNatClampNeg) + ((g9 i_pc (xa).toNatClampNeg) / 4))).toNatClampNeg)] (c_MO_known (g9 i_memory (((g9 i_from (xa).toNatClampNeg) + ((g9 i_pc (xa).toNatClampNeg) / 4))).toNatClampNeg) g9 ) mf_MO_known wi_MO_known wl_MO_known (lt_MO ) (sh_MO ) rfl wm_MO_166 rfl ⟨by decide, by decide⟩ (Nat.le_of_ble_eq_true rfl) ⟨by decide, by decide⟩ dX8_step_70 ?_
      refine v_if_eq X 85 dX8_step_73 (by decide) (fun h73 => ?_) (fun h73 => ?_)
      ·
        refine v_iconst (v := 1) X dX8_step_85 (by decide) ?_
        refine v_istore_n (lv' := [(2, .int 1), (3, .int (g9 i_memory (((g9 i_from (xa).toNatClampNeg) + ((g9 i_pc (xa).toNatClampNeg) / 4))).toNatClampNeg)), (0, .ref (rh iMO)), (1, .int xa)]) X dX8_step_86 rfl (by decide) rfl ?_
        refine v_iload_n X 0 dX8_step_87 rfl rfl ?_
        refine v_if_eq X 97 dX8_step_88 (by decide) (fun h88 => ?_) (fun h88 => ?_)
        · exact absurd h88 (by decide)
        ·
          refine v_aload_n X 2 dX8_step_91 rfl rfl ?_
          refine v_iload_n X 3 dX8_step_92 rfl rfl ?_
          refine v_iload_n X 0 dX8_step_93 rfl rfl ?_
          refine v_callV_CV (rest := []) X [.int xa, .int 1] (c_MO_fault xa 1 g9 hI9 (by assumption)) mf_MO_fault wi_MO_fault wl_MO_fault (lt_MO ) (sh_MO ) rfl wm_MO_173 rfl ⟨by decide, by decide⟩ (Nat.le_of_ble_eq_true rfl) ⟨by decide, by decide⟩ dX8_step_94 ?_
          generalize hg94 : (f_MO_fault xa 1 g9) = g94
          have hI94 : Im g94 := by rw [← hg94]; exact (I_MO_fault xa 1 hI9 (by assumption))
          have e9 : f_MO_step xa σ = g94 := by subst hg9; subst hg94; simp only [f_MO_step, if_pos h20, if_neg h39, if_pos h73]
          exact v_endV hend dX8_step_97 e9
      ·
        refine v_aload_n X 2 dX8_step_76 rfl rfl ?_
        refine v_iload_n X 3 dX8_step_77 rfl rfl ?_
        refine v_iload_n X 0 dX8_step_78 rfl rfl ?_
        refine v_callV_CI (rest := []) X [.int xa, .int (g9 i_memory (((g9 i_from (xa).toNatClampNeg) + ((g9 i_pc (xa).toNatClampNeg) / 4))).toNatClampNeg)] (c_MO_perform xa (g9 i_memory (((g9 i_from (xa).toNatClampNeg) + ((g9 i_pc (xa).toNatClampNeg) / 4))).toNatClampNeg) g9 hI9 (by assumption) (by assumption)) mf_MO_perform wi_MO_perform wl_MO_perform (lt_MO ) (sh_MO ) rfl wm_MO_170 rfl ⟨by decide, by decide⟩ (Nat.le_of_ble_eq_true rfl) ⟨by decide, by decide⟩ dX8_step_79 ?_
        generalize hg79 : (f_MO_perform xa (g9 i_memory (((g9 i_from (xa).toNatClampNeg) + ((g9 i_pc (xa).toNatClampNeg) / 4))).toNatClampNeg) g9) = g79
        have hI79 : Im g79.2 := by rw [← hg79]; exact (I_MO_perform xa (g9 i_memory (((g9 i_from (xa).toNatClampNeg) + ((g9 i_pc (xa).toNatClampNeg) / 4))).toNatClampNeg) hI9 (by assumption) (by assumption))
        refine v_goto (tgt := 86) X dX8_step_82 (by decide) ?_
        refine v_istore_n (lv' := [(2, .int g79.1), (3, .int (g9 i_memory (((g9 i_from (xa).toNatClampNeg) + ((g9 i_pc (xa).toNatClampNeg) / 4))).toNatClampNeg)), (0, .ref (rh iMO)), (1, .int xa)]) X dX8_step_86 rfl (by decide) rfl ?_
        refine v_iload_n X 0 dX8_step_87 rfl rfl ?_
        refine v_if_eq X 97 dX8_step_88 (by decide) (fun h88 => ?_) (fun h88 => ?_)
        ·
          have e9 : f_MO_step xa σ = g79.2 := by subst hg9; subst hg79; simp only [f_MO_step, if_pos h20, if_neg h39, if_neg h73, if_pos h88]
          exact v_endV hend dX8_step_97 e9
        ·
          refine v_aload_n X 2 dX8_step_91 rfl rfl ?_
          refine v_iload_n X 3 dX8_step_92 rfl rfl ?_
          refine v_iload_n X 0 dX8_step_93 rfl rfl ?_
          refine v_callV_CV (rest := []) X [.int xa, .int g79.1] (c_MO_fault xa g79.1 g79.2 hI79 (by assumption)) mf_MO_fault wi_MO_fault wl_MO_fault (lt_MO ) (sh_MO ) rfl wm_MO_173 rfl ⟨by decide, by decide⟩ (Nat.le_of_ble_eq_true rfl) ⟨by decide, by decide⟩ dX8_step_94 ?_
          generalize hg94 : (f_MO_fault xa g79.1 g79.2) = g94
          have hI94 : Im g94 := by rw [← hg94]; exact (I_MO_fault xa g79.1 hI79 (by assumption))
          have e9 : f_MO_step xa σ = g94 := by subst hg9; subst hg79; subst hg94; simp only [f_MO_step, if_pos h20, if_neg h39, if_neg h73, if_neg h88]
          exact v_endV hend dX8_step_97 e9
    ·
      refine v_iconst (v := 3) X dX8_step_42 (by decide) ?_
      refine v_istore_n (lv' := [(2, .int 3), (0, .ref (rh iMO)), (1, .int xa)]) X dX8_step_43 rfl (by decide) rfl ?_
      refine v_goto (tgt := 87) X dX8_step_44 (by decide) ?_
      refine v_iload_n X 0 dX8_step_87 rfl rfl ?_
      refine v_if_eq X 97 dX8_step_88 (by decide) (fun h88 => ?_) (fun h88 => ?_)
      · exact absurd h88 (by decide)
      ·
        refine v_aload_n X 1 dX8_step_91 rfl rfl ?_
        refine v_iload_n X 2 dX8_step_92 rfl rfl ?_
        refine v_iload_n X 0 dX8_step_93 rfl rfl ?_
        refine v_callV_CV (rest := []) X [.int xa, .int 3] (c_MO_fault xa 3 g9 hI9 (by assumption)) mf_MO_fault wi_MO_fault wl_MO_fault (lt_MO ) (sh_MO ) rfl wm_MO_173 rfl ⟨by decide, by decide⟩ (Nat.le_of_ble_eq_true rfl) ⟨by decide, by decide⟩ dX8_step_94 ?_
        generalize hg94 : (f_MO_fault xa 3 g9) = g94
        have hI94 : Im g94 := by rw [← hg94]; exact (I_MO_fault xa 3 hI9 (by assumption))
        have e9 : f_MO_step xa σ = g94 := by subst hg9; subst hg94; simp only [f_MO_step, if_pos h20, if_pos h39]
        exact v_endV hend dX8_step_97 e9
  ·
    refine v_iconst (v := 2) X dX8_step_23 (by decide) ?_
    refine v_istore_n (lv' := [(2, .int 2), (0, .ref (rh iMO)), (1, .int xa)]) X dX8_step_24 rfl (by decide) rfl ?_
    refine v_goto (tgt := 87) X dX8_step_25 (by decide) ?_
    refine v_iload_n X 0 dX8_step_87 rfl rfl ?_
    refine v_if_eq X 97 dX8_step_88 (by decide) (fun h88 => ?_) (fun h88 => ?_)
    · exact absurd h88 (by decide)
    ·
      refine v_aload_n X 1 dX8_step_91 rfl rfl ?_
      refine v_iload_n X 2 dX8_step_92 rfl rfl ?_
      refine v_iload_n X 0 dX8_step_93 rfl rfl ?_
      refine v_callV_CV (rest := []) X [.int xa, .int 2] (c_MO_fault xa 2 g9 hI9 (by assumption)) mf_MO_fault wi_MO_fault wl_MO_fault (lt_MO ) (sh_MO ) rfl wm_MO_173 rfl ⟨by decide, by decide⟩ (Nat.le_of_ble_eq_true rfl) ⟨by decide, by decide⟩ dX8_step_94 ?_
      generalize hg94 : (f_MO_fault xa 2 g9) = g94
      have hI94 : Im g94 := by rw [← hg94]; exact (I_MO_fault xa 2 hI9 (by assumption))
      have e9 : f_MO_step xa σ = g94 := by subst hg9; subst hg94; simp only [f_MO_step, if_neg h20]
      exact v_endV hend dX8_step_97 e9
theorem I_MO_step (xa : Int32) {σ : St} (hI : Im σ) (hq : vp_in xa 4) : Im (f_MO_step xa σ) := by
  unfold f_MO_step
  exact (im_ite (fun h20 => (im_ite (fun h39 => (I_MO_fault xa 3 (Im.upA hI (by decide)) (by assumption))) (fun h39 => (im_ite (fun h73 => (I_MO_fault xa 1 (Im.upA hI (by decide)) (by assumption))) (fun h73 => (im_ite (fun h88 => (I_MO_perform xa ((up σ i_begun (xa).toNatClampNeg ((σ i_begun (xa).toNatClampNeg) + 1)) i_memory ((((up σ i_begun (xa).toNatClampNeg ((σ i_begun (xa).toNatClampNeg) + 1)) i_from (xa).toNatClampNeg) + (((up σ i_begun (xa).toNatClampNeg ((σ i_begun (xa).toNatClampNeg) + 1)) i_pc (xa).toNatClampNeg) / 4))).toNatClampNeg) (Im.upA hI (by decide)) (by assumption) (by assumption))) (fun h88 => (I_MO_fault xa (f_MO_perform xa ((up σ i_begun (xa).toNatClampNeg ((σ i_begun (xa).toNatClampNeg) + 1)) i_memory ((((up σ i_begun (xa).toNatClampNeg ((σ i_begun (xa).toNatClampNeg) + 1)) i_from (xa).toNatClampNeg) + (((up σ i_begun (xa).toNatClampNeg ((σ i_begun (xa).toNatClampNeg) + 1)) i_pc (xa).toNatClampNeg) / 4))).toNatClampNeg) (up σ i_begun (xa).toNatClampNeg ((σ i_begun (xa).toNatClampNeg) + 1))).1 (I_MO_perform xa ((up σ i_begun (xa).toNatClampNeg ((σ i_begun (xa).toNatClampNeg) + 1)) i_memory ((((up σ i_begun (xa).toNatClampNeg ((σ i_begun (xa).toNatClampNeg) + 1)) i_from (xa).toNatClampNeg) + (((up σ i_begun (xa).toNatClampNeg ((σ i_begun (xa).toNatClampNeg) + 1)) i_pc (xa).toNatClampNeg) / 4))).toNatClampNeg) (Im.upA hI (by decide)) (by assumption) (by assumption)) (by assumption))))))))) (fun h20 => (I_MO_fault xa 2 (Im.upA hI (by decide)) (by assumption))))
end CLS
