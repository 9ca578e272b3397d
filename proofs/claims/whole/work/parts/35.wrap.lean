theorem mf_SM_boot : MF yX7_boot cX7_boot 1 (some .int) 0 := ⟨gw_of (by decide +kernel) rfl, gw_of (by decide +kernel) rfl, by decide +kernel, by decide +kernel, by decide +kernel⟩
theorem mf_SM_channel : MF yX7_channel cX7_channel 6 none 4 := ⟨gw_of (by decide +kernel) rfl, gw_of (by decide +kernel) rfl, by decide +kernel, by decide +kernel, by decide +kernel⟩
theorem mf_SM_load : MF yX7_load cX7_load 3 none 2 := ⟨gw_of (by decide +kernel) rfl, gw_of (by decide +kernel) rfl, by decide +kernel, by decide +kernel, by decide +kernel⟩
theorem mf_SM_memory : MF yX7_memory cX7_memory 2 (some .int) 1 := ⟨gw_of (by decide +kernel) rfl, gw_of (by decide +kernel) rfl, by decide +kernel, by decide +kernel, by decide +kernel⟩
theorem mf_SM_object : MF yX7_object cX7_object 3 (some .int) 2 := ⟨gw_of (by decide +kernel) rfl, gw_of (by decide +kernel) rfl, by decide +kernel, by decide +kernel, by decide +kernel⟩
theorem mf_SM_policy : MF yX7_policy cX7_policy 3 none 2 := ⟨gw_of (by decide +kernel) rfl, gw_of (by decide +kernel) rfl, by decide +kernel, by decide +kernel, by decide +kernel⟩
theorem mf_SM_quote : MF yX7_quote cX7_quote 2 (some .int) 1 := ⟨gw_of (by decide +kernel) rfl, gw_of (by decide +kernel) rfl, by decide +kernel, by decide +kernel, by decide +kernel⟩
theorem mf_SM_region : MF yX7_region cX7_region 5 none 3 := ⟨gw_of (by decide +kernel) rfl, gw_of (by decide +kernel) rfl, by decide +kernel, by decide +kernel, by decide +kernel⟩
theorem mf_SM_register : MF yX7_register cX7_register 4 (some .int) 2 := ⟨gw_of (by decide +kernel) rfl, gw_of (by decide +kernel) rfl, by decide +kernel, by decide +kernel, by decide +kernel⟩
theorem mf_SM_reset : MF yX7_reset cX7_reset 1 none 0 := ⟨gw_of (by decide +kernel) rfl, gw_of (by decide +kernel) rfl, by decide +kernel, by decide +kernel, by decide +kernel⟩
theorem mf_SM_run : MF yX7_run cX7_run 4 (some .int) 1 := ⟨gw_of (by decide +kernel) rfl, gw_of (by decide +kernel) rfl, by decide +kernel, by decide +kernel, by decide +kernel⟩
theorem mf_SM_told : MF yX7_told cX7_told 4 (some .int) 2 := ⟨gw_of (by decide +kernel) rfl, gw_of (by decide +kernel) rfl, by decide +kernel, by decide +kernel, by decide +kernel⟩
theorem mf_SM_window : MF yX7_window cX7_window 3 (some .int) 2 := ⟨gw_of (by decide +kernel) rfl, gw_of (by decide +kernel) rfl, by decide +kernel, by decide +kernel, by decide +kernel⟩
theorem wi_SM_boot : Cond.instanceMethod yX7_boot ∈ gw := gw_of (by decide +kernel) rfl
theorem wi_SM_channel : Cond.instanceMethod yX7_channel ∈ gw := gw_of (by decide +kernel) rfl
theorem wi_SM_load : Cond.instanceMethod yX7_load ∈ gw := gw_of (by decide +kernel) rfl
theorem wi_SM_memory : Cond.instanceMethod yX7_memory ∈ gw := gw_of (by decide +kernel) rfl
theorem wi_SM_object : Cond.instanceMethod yX7_object ∈ gw := gw_of (by decide +kernel) rfl
theorem wi_SM_policy : Cond.instanceMethod yX7_policy ∈ gw := gw_of (by decide +kernel) rfl
theorem wi_SM_quote : Cond.instanceMethod yX7_quote ∈ gw := gw_of (by decide +kernel) rfl
theorem wi_SM_region : Cond.instanceMethod yX7_region ∈ gw := gw_of (by decide +kernel) rfl
theorem wi_SM_register : Cond.instanceMethod yX7_register ∈ gw := gw_of (by decide +kernel) rfl
theorem wi_SM_reset : Cond.instanceMethod yX7_reset ∈ gw := gw_of (by decide +kernel) rfl
theorem wi_SM_run : Cond.instanceMethod yX7_run ∈ gw := gw_of (by decide +kernel) rfl
theorem wi_SM_told : Cond.instanceMethod yX7_told ∈ gw := gw_of (by decide +kernel) rfl
theorem wi_SM_window : Cond.instanceMethod yX7_window ∈ gw := gw_of (by decide +kernel) rfl
theorem wl_SM_boot : Cond.selects yX7_boot.cls yX7_boot yX7_boot ∈ gw := gw_of (by decide +kernel) rfl
theorem wl_SM_channel : Cond.selects yX7_channel.cls yX7_channel yX7_channel ∈ gw := gw_of (by decide +kernel) rfl
theorem wl_SM_load : Cond.selects yX7_load.cls yX7_load yX7_load ∈ gw := gw_of (by decide +kernel) rfl
theorem wl_SM_memory : Cond.selects yX7_memory.cls yX7_memory yX7_memory ∈ gw := gw_of (by decide +kernel) rfl
theorem wl_SM_object : Cond.selects yX7_object.cls yX7_object yX7_object ∈ gw := gw_of (by decide +kernel) rfl
theorem wl_SM_policy : Cond.selects yX7_policy.cls yX7_policy yX7_policy ∈ gw := gw_of (by decide +kernel) rfl
theorem wl_SM_quote : Cond.selects yX7_quote.cls yX7_quote yX7_quote ∈ gw := gw_of (by decide +kernel) rfl
theorem wl_SM_region : Cond.selects yX7_region.cls yX7_region yX7_region ∈ gw := gw_of (by decide +kernel) rfl
theorem wl_SM_register : Cond.selects yX7_register.cls yX7_register yX7_register ∈ gw := gw_of (by decide +kernel) rfl
theorem wl_SM_reset : Cond.selects yX7_reset.cls yX7_reset yX7_reset ∈ gw := gw_of (by decide +kernel) rfl
theorem wl_SM_run : Cond.selects yX7_run.cls yX7_run yX7_run ∈ gw := gw_of (by decide +kernel) rfl
theorem wl_SM_told : Cond.selects yX7_told.cls yX7_told yX7_told ∈ gw := gw_of (by decide +kernel) rfl
theorem wl_SM_window : Cond.selects yX7_window.cls yX7_window yX7_window ∈ gw := gw_of (by decide +kernel) rfl
theorem wm_LA_19 : Cond.methodLink RL 19 yX7_load ∈ gw := gw_of (by decide +kernel) rfl
theorem wm_LA_23 : Cond.methodLink RL 23 yX7_policy ∈ gw := gw_of (by decide +kernel) rfl
theorem wm_LA_26 : Cond.methodLink RL 26 yX7_window ∈ gw := gw_of (by decide +kernel) rfl
theorem wm_LA_30 : Cond.methodLink RL 30 yX7_channel ∈ gw := gw_of (by decide +kernel) rfl
theorem wm_LA_34 : Cond.methodLink RL 34 yX7_boot ∈ gw := gw_of (by decide +kernel) rfl
theorem wm_LA_38 : Cond.methodLink RL 38 yX7_reset ∈ gw := gw_of (by decide +kernel) rfl
theorem wm_LA_41 : Cond.methodLink RL 41 yX7_run ∈ gw := gw_of (by decide +kernel) rfl
theorem wm_LA_45 : Cond.methodLink RL 45 yX7_quote ∈ gw := gw_of (by decide +kernel) rfl
theorem wm_LA_48 : Cond.methodLink RL 48 yX7_register ∈ gw := gw_of (by decide +kernel) rfl
theorem wm_LA_51 : Cond.methodLink RL 51 yX7_memory ∈ gw := gw_of (by decide +kernel) rfl
theorem wm_LA_54 : Cond.methodLink RL 54 yX7_told ∈ gw := gw_of (by decide +kernel) rfl
theorem wm_LA_57 : Cond.methodLink RL 57 yX7_object ∈ gw := gw_of (by decide +kernel) rfl
theorem wm_LA_7 : Cond.methodLink RL 7 yX7_region ∈ gw := gw_of (by decide +kernel) rfl
section CLS
variable {l : Launch} {D : va_G} {rh : Nat → Nat} {cA : Nat → ClassId}
theorem k_SM_region (xa : Int32) (xb : Int32) (xc : Int32) (σ : St) : k123 (f_SM_region xa xb xc σ).1 := by
  unfold f_SM_region
  repeat' with_reducible first | exact k123_0 .. | exact k123_b .. | exact k123_n .. | exact k123_3 .. | refine k123_ite ?_ ?_
set_option maxHeartbeats 4000000 in
set_option maxRecDepth 100000 in
theorem c_LA_region (hlt : l.stackTraces = false) (xa : Int32) (xb : Int32) (xc : Int32) (σ : St) (hI : Ic σ) : CWI l D (tyL cA) rh (rcW rh cA) NW yL_region cL_region 5 [(0, 7, 10, 13), (0, 7, 14, 15), (0, 7, 18, 17)] 8 3 18 [.ref (rh iSM), .int xa, .int xb, .int xc] σ (f_SM_region xa xb xc σ).1 (f_SM_region xa xb xc σ).2.2 := by
  have hC := c_SM_region (D := D) (rh := rh) (cA := cA) hlt xa xb xc σ hI
  have hk := k_SM_region xa xb xc σ
  generalize f_SM_region xa xb xc σ = F at hC hk ⊢
  refine CWI.of rfl (Nat.le_of_ble_eq_true rfl) ?_
  intro p9 e s m args below meth c A Q X htb hend
  refine v_lv (lv' := [(0, .ref (rh iSM)), (1, .int xa), (2, .int xb), (3, .int xc)]) [0, 1, 2, 3] rfl ?_
  refine v_aload_n X 0 dL_region_0 rfl rfl ?_
  refine v_iload_n X 1 dL_region_1 rfl rfl ?_
  refine v_iload_n X 2 dL_region_2 rfl rfl ?_
  refine v_iload_n X 3 dL_region_3 rfl rfl ?_
  refine v_callV_CFV (rest := []) X [.int xa, .int xb, .int xc] hC mf_SM_region wi_SM_region wl_SM_region lt_SM sh_SM rfl wm_LA_7 rfl ⟨by decide, by decide⟩ (Nat.le_of_ble_eq_true rfl) ⟨by decide, by decide⟩ dL_region_4 (fun h0 => ?_) (fun h0 => ?_)
  · rcases hk with h1 | h1 | h1 | h1
    · exact absurd h1 h0
    · rw [h1, exN1]
      refine v_catch (name := "java/lang/IllegalArgumentException") X [] ⟨0, 7, 10, 13⟩ [⟨0, 7, 14, 15⟩, ⟨0, 7, 18, 17⟩] (htb.trans rfl) (fun z hz => nomatch hz) rfl (by decide) wcl_1 wcast_1 (fun q => ?_)
      refine v_astore (pc := 10) (lv' := [(4, .ref q), (0, .ref (rh iSM)), (1, .int xa), (2, .int xb), (3, .int xc)]) X dL_region_10 (by decide) rfl ?_
      refine v_iconst (pc := 12) (v := 1) X dL_region_12 (by decide) ?_
      exact hend 13 _ _ _ _ _ h1 rfl (by decide) (by decide) dL_region_13
    · rw [h1, exN2]
      refine v_catch (name := "java/lang/IllegalStateException") X [⟨0, 7, 10, 13⟩] ⟨0, 7, 14, 15⟩ [⟨0, 7, 18, 17⟩] (htb.trans rfl) (fun z hz => by cases List.mem_singleton.mp hz; exact Or.inr ⟨by decide, _, wcl_1, X.2.2.2.2.2.2.1.2.1⟩) rfl (by decide) wcl_2 wcast_2 (fun q => ?_)
      refine v_astore (pc := 14) (lv' := [(4, .ref q), (0, .ref (rh iSM)), (1, .int xa), (2, .int xb), (3, .int xc)]) X dL_region_14 (by decide) rfl ?_
      refine v_iconst (pc := 16) (v := 2) X dL_region_16 (by decide) ?_
      exact hend 17 _ _ _ _ _ h1 rfl (by decide) (by decide) dL_region_17
    · rw [h1, exN3]
      refine v_catch (name := "java/lang/UnsupportedOperationException") X [⟨0, 7, 10, 13⟩, ⟨0, 7, 14, 15⟩] ⟨0, 7, 18, 17⟩ [] (htb.trans rfl) (fun z hz => by
        rcases List.mem_cons.mp hz with rfl | hz
        · exact Or.inr ⟨by decide, _, wcl_1, X.2.2.2.2.2.2.1.2.2.1⟩
        · cases List.mem_singleton.mp hz; exact Or.inr ⟨by decide, _, wcl_2, X.2.2.2.2.2.2.1.2.2.2⟩) rfl (by decide) wcl_3 wcast_3 (fun q => ?_)
      refine v_astore (pc := 18) (lv' := [(4, .ref q), (0, .ref (rh iSM)), (1, .int xa), (2, .int xb), (3, .int xc)]) X dL_region_18 (by decide) rfl ?_
      refine v_iconst (pc := 20) (v := 3) X dL_region_20 (by decide) ?_
      exact hend 21 _ _ _ _ _ h1 rfl (by decide) (by decide) dL_region_21
  · refine v_goto (tgt := 22) X dL_region_7 (by decide) ?_
    refine v_iconst (v := 0) X dL_region_22 (by decide) ?_
    exact hend _ _ _ _ _ _ h0 rfl (by decide) (by decide) dL_region_23
theorem k_SM_load (xa : Int32) (xb : Int32) (σ : St) : k12 (f_SM_load xa xb σ).1 := by
  unfold f_SM_load
  repeat' with_reducible first | exact k12_0 .. | exact k12_b .. | exact k12_n .. | refine k12_ite ?_ ?_
set_option maxHeartbeats 4000000 in
set_option maxRecDepth 100000 in
theorem c_LA_load (hlt : l.stackTraces = false) (xa : Int32) (xb : Int32) (σ : St) (hI : Ic σ) : CWI l D (tyL cA) rh (rcW rh cA) NW yL_load cL_load 4 [(0, 6, 9, 13), (0, 6, 12, 15)] 8 3 18 [.ref (rh iSM), .int xa, .int xb] σ (f_SM_load xa xb σ).1 (f_SM_load xa xb σ).2.2 := by
  have hC := c_SM_load (D := D) (rh := rh) (cA := cA) hlt xa xb σ hI
  have hk := k_SM_load xa xb σ
  generalize f_SM_load xa xb σ = F at hC hk ⊢
  refine CWI.of rfl (Nat.le_of_ble_eq_true rfl) ?_
  intro p9 e s m args below meth c A Q X htb hend
  refine v_lv (lv' := [(0, .ref (rh iSM)), (1, .int xa), (2, .int xb)]) [0, 1, 2] rfl ?_
  refine v_aload_n X 0 dL_load_0 rfl rfl ?_
  refine v_iload_n X 1 dL_load_1 rfl rfl ?_
  refine v_iload_n X 2 dL_load_2 rfl rfl ?_
  refine v_callV_CFV (rest := []) X [.int xa, .int xb] hC mf_SM_load wi_SM_load wl_SM_load lt_SM sh_SM rfl wm_LA_19 rfl ⟨by decide, by decide⟩ (Nat.le_of_ble_eq_true rfl) ⟨by decide, by decide⟩ dL_load_3 (fun h0 => ?_) (fun h0 => ?_)
  · rcases hk with h1 | h1 | h1
    · exact absurd h1 h0
    · rw [h1, exN1]
      refine v_catch (name := "java/lang/IllegalArgumentException") X [] ⟨0, 6, 9, 13⟩ [⟨0, 6, 12, 15⟩] (htb.trans rfl) (fun z hz => nomatch hz) rfl (by decide) wcl_1 wcast_1 (fun q => ?_)
      refine v_astore_n (pc := 9) (lv' := [(3, .ref q), (0, .ref (rh iSM)), (1, .int xa), (2, .int xb)]) X dL_load_9 rfl (by decide) rfl ?_
      refine v_iconst (pc := 10) (v := 1) X dL_load_10 (by decide) ?_
      exact hend 11 _ _ _ _ _ h1 rfl (by decide) (by decide) dL_load_11
    · rw [h1, exN2]
      refine v_catch (name := "java/lang/IllegalStateException") X [⟨0, 6, 9, 13⟩] ⟨0, 6, 12, 15⟩ [] (htb.trans rfl) (fun z hz => by cases List.mem_singleton.mp hz; exact Or.inr ⟨by decide, _, wcl_1, X.2.2.2.2.2.2.1.2.1⟩) rfl (by decide) wcl_2 wcast_2 (fun q => ?_)
      refine v_astore_n (pc := 12) (lv' := [(3, .ref q), (0, .ref (rh iSM)), (1, .int xa), (2, .int xb)]) X dL_load_12 rfl (by decide) rfl ?_
      refine v_iconst (pc := 13) (v := 2) X dL_load_13 (by decide) ?_
      exact hend 14 _ _ _ _ _ h1 rfl (by decide) (by decide) dL_load_14
  · refine v_goto (tgt := 15) X dL_load_6 (by decide) ?_
    refine v_iconst (v := 0) X dL_load_15 (by decide) ?_
    exact hend _ _ _ _ _ _ h0 rfl (by decide) (by decide) dL_load_16
theorem k_SM_policy (xa : Int32) (xb : Int32) (σ : St) : k12 (f_SM_policy xa xb σ).1 := by
  unfold f_SM_policy
  repeat' with_reducible first | exact k12_0 .. | exact k12_b .. | exact k12_n .. | refine k12_ite ?_ ?_
set_option maxHeartbeats 4000000 in
set_option maxRecDepth 100000 in
theorem c_LA_policy (hlt : l.stackTraces = false) (xa : Int32) (xb : Int32) (σ : St) (hI : Ic σ) : CWI l D (tyL cA) rh (rcW rh cA) NW yL_policy cL_policy 4 [(0, 6, 9, 13), (0, 6, 12, 15)] 8 3 18 [.ref (rh iSM), .int xa, .int xb] σ (f_SM_policy xa xb σ).1 (f_SM_policy xa xb σ).2.2 := by
  have hC := c_SM_policy (D := D) (rh := rh) (cA := cA) hlt xa xb σ hI
  have hk := k_SM_policy xa xb σ
  generalize f_SM_policy xa xb σ = F at hC hk ⊢
  refine CWI.of rfl (Nat.le_of_ble_eq_true rfl) ?_
  intro p9 e s m args below meth c A Q X htb hend
  refine v_lv (lv' := [(0, .ref (rh iSM)), (1, .int xa), (2, .int xb)]) [0, 1, 2] rfl ?_
  refine v_aload_n X 0 dL_policy_0 rfl rfl ?_
  refine v_iload_n X 1 dL_policy_1 rfl rfl ?_
  refine v_iload_n X 2 dL_policy_2 rfl rfl ?_
  refine v_callV_CFV (rest := []) X [.int xa, .int xb] hC mf_SM_policy wi_SM_policy wl_SM_policy lt_SM sh_SM rfl wm_LA_23 rfl ⟨by decide, by decide⟩ (Nat.le_of_ble_eq_true rfl) ⟨by decide, by decide⟩ dL_policy_3 (fun h0 => ?_) (fun h0 => ?_)
  · rcases hk with h1 | h1 | h1
    · exact absurd h1 h0
    · rw [h1, exN1]
      refine v_catch (name := "java/lang/IllegalArgumentException") X [] ⟨0, 6, 9, 13⟩ [⟨0, 6, 12, 15⟩] (htb.trans rfl) (fun z hz => nomatch hz) rfl (by decide) wcl_1 wcast_1 (fun q => ?_)
      refine v_astore_n (pc := 9) (lv' := [(3, .ref q), (0, .ref (rh iSM)), (1, .int xa), (2, .int xb)]) X dL_policy_9 rfl (by decide) rfl ?_
      refine v_iconst (pc := 10) (v := 1) X dL_policy_10 (by decide) ?_
      exact hend 11 _ _ _ _ _ h1 rfl (by decide) (by decide) dL_policy_11
    · rw [h1, exN2]
      refine v_catch (name := "java/lang/IllegalStateException") X [⟨0, 6, 9, 13⟩] ⟨0, 6, 12, 15⟩ [] (htb.trans rfl) (fun z hz => by cases List.mem_singleton.mp hz; exact Or.inr ⟨by decide, _, wcl_1, X.2.2.2.2.2.2.1.2.1⟩) rfl (by decide) wcl_2 wcast_2 (fun q => ?_)
      refine v_astore_n (pc := 12) (lv' := [(3, .ref q), (0, .ref (rh iSM)), (1, .int xa), (2, .int xb)]) X dL_policy_12 rfl (by decide) rfl ?_
      refine v_iconst (pc := 13) (v := 2) X dL_policy_13 (by decide) ?_
      exact hend 14 _ _ _ _ _ h1 rfl (by decide) (by decide) dL_policy_14
  · refine v_goto (tgt := 15) X dL_policy_6 (by decide) ?_
    refine v_iconst (v := 0) X dL_policy_15 (by decide) ?_
    exact hend _ _ _ _ _ _ h0 rfl (by decide) (by decide) dL_policy_16
theorem k_SM_window (xa : Int32) (xb : Int32) (σ : St) : k12 (f_SM_window xa xb σ).1 := by
  unfold f_SM_window
  repeat' with_reducible first | exact k12_0 .. | exact k12_b .. | exact k12_n .. | refine k12_ite ?_ ?_
set_option maxHeartbeats 4000000 in
set_option maxRecDepth 100000 in
theorem c_LA_window (hlt : l.stackTraces = false) (xa : Int32) (xb : Int32) (σ : St) (hI : Ic σ) : CWI l D (tyL cA) rh (rcW rh cA) NW yL_window cL_window 5 [(0, 10, 13, 13), (0, 10, 17, 15)] 8 3 18 [.ref (rh iSM), .int xa, .int xb, .ref (rh iOUT)] σ (f_SM_window xa xb σ).1 (wo (f_SM_window xa xb σ)) := by
  have hC := c_SM_window (D := D) (rh := rh) (cA := cA) hlt xa xb σ hI
  have hk := k_SM_window xa xb σ
  generalize f_SM_window xa xb σ = F at hC hk ⊢
  refine CWI.of rfl (Nat.le_of_ble_eq_true rfl) ?_
  intro p9 e s m args below meth c A Q X htb hend
  refine v_lv (lv' := [(0, .ref (rh iSM)), (1, .int xa), (2, .int xb), (3, .ref (rh iOUT))]) [0, 1, 2, 3] rfl ?_
  refine v_aload_n X 3 dL_window_0 rfl rfl ?_
  refine v_iconst (v := 0) X dL_window_1 (by decide) ?_
  refine v_aload_n X 0 dL_window_2 rfl rfl ?_
  refine v_iload_n X 1 dL_window_3 rfl rfl ?_
  refine v_iload_n X 2 dL_window_4 rfl rfl ?_
  refine v_callV_CFI (rest := [.int 0, .ref (rh iOUT)]) X [.int xa, .int xb] hC mf_SM_window wi_SM_window wl_SM_window lt_SM sh_SM rfl wm_LA_26 rfl ⟨by decide, by decide⟩ (Nat.le_of_ble_eq_true rfl) ⟨by decide, by decide⟩ dL_window_5 (fun h0 => ?_) (fun h0 => ?_)
  · rcases hk with h1 | h1 | h1
    · exact absurd h1 h0
    · rw [h1, exN1]
      refine v_catch (name := "java/lang/IllegalArgumentException") X [] ⟨0, 10, 13, 13⟩ [⟨0, 10, 17, 15⟩] (htb.trans rfl) (fun z hz => nomatch hz) rfl (by decide) wcl_1 wcast_1 (fun q => ?_)
      refine v_astore (pc := 13) (lv' := [(4, .ref q), (0, .ref (rh iSM)), (1, .int xa), (2, .int xb), (3, .ref (rh iOUT))]) X dL_window_13 (by decide) rfl ?_
      refine v_iconst (pc := 15) (v := 1) X dL_window_15 (by decide) ?_
      exact hend 16 _ _ _ _ _ h1 (if_neg h0) (by decide) (by decide) dL_window_16
    · rw [h1, exN2]
      refine v_catch (name := "java/lang/IllegalStateException") X [⟨0, 10, 13, 13⟩] ⟨0, 10, 17, 15⟩ [] (htb.trans rfl) (fun z hz => by cases List.mem_singleton.mp hz; exact Or.inr ⟨by decide, _, wcl_1, X.2.2.2.2.2.2.1.2.1⟩) rfl (by decide) wcl_2 wcast_2 (fun q => ?_)
      refine v_astore (pc := 17) (lv' := [(4, .ref q), (0, .ref (rh iSM)), (1, .int xa), (2, .int xb), (3, .ref (rh iOUT))]) X dL_window_17 (by decide) rfl ?_
      refine v_iconst (pc := 19) (v := 2) X dL_window_19 (by decide) ?_
      exact hend 20 _ _ _ _ _ h1 (if_neg h0) (by decide) (by decide) dL_window_20
  · refine v_i2l X dL_window_8 ?_
    refine v_last (i := iOUT) (t0 := 4) X lt_OUT sh_OUT rfl (vin_mk (by decide) (by decide)) dL_window_9 ?_
    refine v_goto (tgt := 21) X dL_window_10 (by decide) ?_
    refine v_iconst (v := 0) X dL_window_21 (by decide) ?_
    exact hend _ _ _ _ _ _ h0 (if_pos h0) (by decide) (by decide) dL_window_22
theorem k_SM_channel (xa : Int32) (xb : Int32) (xc : Int32) (xd : Int32) (σ : St) : k12 (f_SM_channel xa xb xc xd σ).1 := by
  unfold f_SM_channel
  repeat' with_reducible first | exact k12_0 .. | exact k12_b .. | exact k12_n .. | refine k12_ite ?_ ?_
set_option maxHeartbeats 4000000 in
set_option maxRecDepth 100000 in
theorem c_LA_channel (hlt : l.stackTraces = false) (xa : Int32) (xb : Int32) (xc : Int32) (xd : Int32) (σ : St) (hI : Ic σ) : CWI l D (tyL cA) rh (rcW rh cA) NW yL_channel cL_channel 6 [(0, 9, 12, 13), (0, 9, 16, 15)] 8 3 18 [.ref (rh iSM), .int xa, .int xb, .int xc, .int xd] σ (f_SM_channel xa xb xc xd σ).1 (f_SM_channel xa xb xc xd σ).2.2 := by
  have hC := c_SM_channel (D := D) (rh := rh) (cA := cA) hlt xa xb xc xd σ hI
  have hk := k_SM_channel xa xb xc xd σ
  generalize f_SM_channel xa xb xc xd σ = F at hC hk ⊢
  refine CWI.of rfl (Nat.le_of_ble_eq_true rfl) ?_
  intro p9 e s m args below meth c A Q X htb hend
  refine v_lv (lv' := [(0, .ref (rh iSM)), (1, .int xa), (2, .int xb), (3, .int xc), (4, .int xd)]) [0, 1, 2, 3, 4] rfl ?_
  refine v_aload_n X 0 dL_channel_0 rfl rfl ?_
  refine v_iload_n X 1 dL_channel_1 rfl rfl ?_
  refine v_iload_n X 2 dL_channel_2 rfl rfl ?_
  refine v_iload_n X 3 dL_channel_3 rfl rfl ?_
  refine v_iload X 4 dL_channel_4 rfl ?_
  refine v_callV_CFV (rest := []) X [.int xa, .int xb, .int xc, .int xd] hC mf_SM_channel wi_SM_channel wl_SM_channel lt_SM sh_SM rfl wm_LA_30 rfl ⟨by decide, by decide⟩ (Nat.le_of_ble_eq_true rfl) ⟨by decide, by decide⟩ dL_channel_6 (fun h0 => ?_) (fun h0 => ?_)
  · rcases hk with h1 | h1 | h1
    · exact absurd h1 h0
    · rw [h1, exN1]
      refine v_catch (name := "java/lang/IllegalArgumentException") X [] ⟨0, 9, 12, 13⟩ [⟨0, 9, 16, 15⟩] (htb.trans rfl) (fun z hz => nomatch hz) rfl (by decide) wcl_1 wcast_1 (fun q => ?_)
      refine v_astore (pc := 12) (lv' := [(5, .ref q), (0, .ref (rh iSM)), (1, .int xa), (2, .int xb), (3, .int xc), (4, .int xd)]) X dL_channel_12 (by decide) rfl ?_
      refine v_iconst (pc := 14) (v := 1) X dL_channel_14 (by decide) ?_
      exact hend 15 _ _ _ _ _ h1 rfl (by decide) (by decide) dL_channel_15
    · rw [h1, exN2]
      refine v_catch (name := "java/lang/IllegalStateException") X [⟨0, 9, 12, 13⟩] ⟨0, 9, 16, 15⟩ [] (htb.trans rfl) (fun z hz => by cases List.mem_singleton.mp hz; exact Or.inr ⟨by decide, _, wcl_1, X.2.2.2.2.2.2.1.2.1⟩) rfl (by decide) wcl_2 wcast_2 (fun q => ?_)
      refine v_astore (pc := 16) (lv' := [(5, .ref q), (0, .ref (rh iSM)), (1, .int xa), (2, .int xb), (3, .int xc), (4, .int xd)]) X dL_channel_16 (by decide) rfl ?_
      refine v_iconst (pc := 18) (v := 2) X dL_channel_18 (by decide) ?_
      exact hend 19 _ _ _ _ _ h1 rfl (by decide) (by decide) dL_channel_19
  · refine v_goto (tgt := 20) X dL_channel_9 (by decide) ?_
    refine v_iconst (v := 0) X dL_channel_20 (by decide) ?_
    exact hend _ _ _ _ _ _ h0 rfl (by decide) (by decide) dL_channel_21
theorem k_SM_boot  (σ : St) : k02 (f_SM_boot σ).1 := by
  unfold f_SM_boot
  repeat' with_reducible first | exact k02_0 .. | exact k02_n .. | refine k02_ite ?_ ?_
set_option maxHeartbeats 4000000 in
set_option maxRecDepth 100000 in
theorem c_LA_boot (hlt : l.stackTraces = false)  (σ : St) (hI : Ic σ) : CWI l D (tyL cA) rh (rcW rh cA) NW yL_boot cL_boot 3 [(0, 8, 11, 15)] 8 3 18 [.ref (rh iSM), .ref (rh iOUT)] σ (w01 (f_SM_boot σ).1) (wo (f_SM_boot σ)) := by
  have hC := c_SM_boot (D := D) (rh := rh) (cA := cA) hlt  σ hI
  have hk := k_SM_boot  σ
  generalize f_SM_boot σ = F at hC hk ⊢
  refine CWI.of rfl (Nat.le_of_ble_eq_true rfl) ?_
  intro p9 e s m args below meth c A Q X htb hend
  refine v_lv (lv' := [(0, .ref (rh iSM)), (1, .ref (rh iOUT))]) [0, 1] rfl ?_
  refine v_aload_n X 1 dL_boot_0 rfl rfl ?_
  refine v_iconst (v := 0) X dL_boot_1 (by decide) ?_
  refine v_aload_n X 0 dL_boot_2 rfl rfl ?_
  refine v_callV_CFI (rest := [.int 0, .ref (rh iOUT)]) X [] hC mf_SM_boot wi_SM_boot wl_SM_boot lt_SM sh_SM rfl wm_LA_34 rfl ⟨by decide, by decide⟩ (Nat.le_of_ble_eq_true rfl) ⟨by decide, by decide⟩ dL_boot_3 (fun h0 => ?_) (fun h0 => ?_)
  · rcases hk with h1 | h1
    · exact absurd h1 h0
    · rw [h1, exN2]
      refine v_catch (name := "java/lang/IllegalStateException") X [] ⟨0, 8, 11, 15⟩ [] (htb.trans rfl) (fun z hz => nomatch hz) rfl (by decide) wcl_2 wcast_2 (fun q => ?_)
      refine v_astore_n (pc := 11) (lv' := [(2, .ref q), (0, .ref (rh iSM)), (1, .ref (rh iOUT))]) X dL_boot_11 rfl (by decide) rfl ?_
      refine v_iconst (pc := 12) (v := 1) X dL_boot_12 (by decide) ?_
      exact hend 13 _ _ _ _ _ (if_neg h0) (if_neg h0) (by decide) (by decide) dL_boot_13
  · refine v_i2l X dL_boot_6 ?_
    refine v_last (i := iOUT) (t0 := 4) X lt_OUT sh_OUT rfl (vin_mk (by decide) (by decide)) dL_boot_7 ?_
    refine v_goto (tgt := 14) X dL_boot_8 (by decide) ?_
    refine v_iconst (v := 0) X dL_boot_14 (by decide) ?_
    exact hend _ _ _ _ _ _ (if_pos h0) (if_pos h0) (by decide) (by decide) dL_boot_15
theorem k_SM_reset  (σ : St) : k02 (f_SM_reset σ).1 := by
  unfold f_SM_reset
  repeat' with_reducible first | exact k02_0 .. | exact k02_n .. | refine k02_ite ?_ ?_
set_option maxHeartbeats 4000000 in
set_option maxRecDepth 100000 in
theorem c_LA_reset (hlt : l.stackTraces = false)  (σ : St) (hI : Ic σ) : CWI l D (tyL cA) rh (rcW rh cA) NW yL_reset cL_reset 2 [(0, 4, 7, 15)] 8 3 18 [.ref (rh iSM)] σ (w01 (f_SM_reset σ).1) (f_SM_reset σ).2.2 := by
  have hC := c_SM_reset (D := D) (rh := rh) (cA := cA) hlt  σ hI
  have hk := k_SM_reset  σ
  generalize f_SM_reset σ = F at hC hk ⊢
  refine CWI.of rfl (Nat.le_of_ble_eq_true rfl) ?_
  intro p9 e s m args below meth c A Q X htb hend
  refine v_lv (lv' := [(0, .ref (rh iSM))]) [0] rfl ?_
  refine v_aload_n X 0 dL_reset_0 rfl rfl ?_
  refine v_callV_CFV (rest := []) X [] hC mf_SM_reset wi_SM_reset wl_SM_reset lt_SM sh_SM rfl wm_LA_38 rfl ⟨by decide, by decide⟩ (Nat.le_of_ble_eq_true rfl) ⟨by decide, by decide⟩ dL_reset_1 (fun h0 => ?_) (fun h0 => ?_)
  · rcases hk with h1 | h1
    · exact absurd h1 h0
    · rw [h1, exN2]
      refine v_catch (name := "java/lang/IllegalStateException") X [] ⟨0, 4, 7, 15⟩ [] (htb.trans rfl) (fun z hz => nomatch hz) rfl (by decide) wcl_2 wcast_2 (fun q => ?_)
      refine v_astore_n (pc := 7) (lv' := [(1, .ref q), (0, .ref (rh iSM))]) X dL_reset_7 rfl (by decide) rfl ?_
      refine v_iconst (pc := 8) (v := 1) X dL_reset_8 (by decide) ?_
      exact hend 9 _ _ _ _ _ (if_neg h0) rfl (by decide) (by decide) dL_reset_9
  · refine v_goto (tgt := 10) X dL_reset_4 (by decide) ?_
    refine v_iconst (v := 0) X dL_reset_10 (by decide) ?_
    exact hend _ _ _ _ _ _ (if_pos h0) rfl (by decide) (by decide) dL_reset_11
theorem k_SM_run (xa : Int32) (σ : St) : k12 (f_SM_run xa σ).1 := by
  unfold f_SM_run
  repeat' with_reducible first | exact k12_0 .. | exact k12_b .. | exact k12_n .. | exact k12_run .. | refine k12_ite ?_ ?_
set_option maxHeartbeats 4000000 in
set_option maxRecDepth 100000 in
theorem c_LA_run (hlt : l.stackTraces = false) (xa : Int32) (σ : St) (hI : Ic σ) : CWI l D (tyL cA) rh (rcW rh cA) NW yL_run cL_run 4 [(0, 9, 12, 13), (0, 9, 15, 15)] 8 3 18 [.ref (rh iSM), .int xa, .ref (rh iOUT)] σ (f_SM_run xa σ).1 (wo (f_SM_run xa σ)) := by
  have hC := c_SM_run (D := D) (rh := rh) (cA := cA) hlt xa σ hI
  have hk := k_SM_run xa σ
  generalize f_SM_run xa σ = F at hC hk ⊢
  refine CWI.of rfl (Nat.le_of_ble_eq_true rfl) ?_
  intro p9 e s m args below meth c A Q X htb hend
  refine v_lv (lv' := [(0, .ref (rh iSM)), (1, .int xa), (2, .ref (rh iOUT))]) [0, 1, 2] rfl ?_
  refine v_aload_n X 2 dL_run_0 rfl rfl ?_
  refine v_iconst (v := 0) X dL_run_1 (by decide) ?_
  refine v_aload_n X 0 dL_run_2 rfl rfl ?_
  refine v_iload_n X 1 dL_run_3 rfl rfl ?_
  refine v_callV_CFI (rest := [.int 0, .ref (rh iOUT)]) X [.int xa] hC mf_SM_run wi_SM_run wl_SM_run lt_SM sh_SM rfl wm_LA_41 rfl ⟨by decide, by decide⟩ (Nat.le_of_ble_eq_true rfl) ⟨by decide, by decide⟩ dL_run_4 (fun h0 => ?_) (fun h0 => ?_)
  · rcases hk with h1 | h1 | h1
    · exact absurd h1 h0
    · rw [h1, exN1]
      refine v_catch (name := "java/lang/IllegalArgumentException") X [] ⟨0, 9, 12, 13⟩ [⟨0, 9, 15, 15⟩] (htb.trans rfl) (fun z hz => nomatch hz) rfl (by decide) wcl_1 wcast_1 (fun q => ?_)
      refine v_astore_n (pc := 12) (lv' := [(3, .ref q), (0, .ref (rh iSM)), (1, .int xa), (2, .ref (rh iOUT))]) X dL_run_12 rfl (by decide) rfl ?_
      refine v_iconst (pc := 13) (v := 1) X dL_run_13 (by decide) ?_
      exact hend 14 _ _ _ _ _ h1 (if_neg h0) (by decide) (by decide) dL_run_14
    · rw [h1, exN2]
      refine v_catch (name := "java/lang/IllegalStateException") X [⟨0, 9, 12, 13⟩] ⟨0, 9, 15, 15⟩ [] (htb.trans rfl) (fun z hz => by cases List.mem_singleton.mp hz; exact Or.inr ⟨by decide, _, wcl_1, X.2.2.2.2.2.2.1.2.1⟩) rfl (by decide) wcl_2 wcast_2 (fun q => ?_)
      refine v_astore_n (pc := 15) (lv' := [(3, .ref q), (0, .ref (rh iSM)), (1, .int xa), (2, .ref (rh iOUT))]) X dL_run_15 rfl (by decide) rfl ?_
      refine v_iconst (pc := 16) (v := 2) X dL_run_16 (by decide) ?_
      exact hend 17 _ _ _ _ _ h1 (if_neg h0) (by decide) (by decide) dL_run_17
  · refine v_i2l X dL_run_7 ?_
    refine v_last (i := iOUT) (t0 := 4) X lt_OUT sh_OUT rfl (vin_mk (by decide) (by decide)) dL_run_8 ?_
    refine v_goto (tgt := 18) X dL_run_9 (by decide) ?_
    refine v_iconst (v := 0) X dL_run_18 (by decide) ?_
    exact hend _ _ _ _ _ _ h0 (if_pos h0) (by decide) (by decide) dL_run_19
theorem k_SM_quote (xa : Int32) (σ : St) : k02 (f_SM_quote xa σ).1 := by
  unfold f_SM_quote
  repeat' with_reducible first | exact k02_0 .. | exact k02_n .. | refine k02_ite ?_ ?_
set_option maxHeartbeats 4000000 in
set_option maxRecDepth 100000 in
theorem c_LA_quote (hlt : l.stackTraces = false) (xa : Int32) (σ : St) (hI : Ic σ) : CWI l D (tyL cA) rh (rcW rh cA) NW yL_quote cL_quote 4 [(0, 9, 12, 15)] 8 3 18 [.ref (rh iSM), .int xa, .ref (rh iOUT)] σ (w01 (f_SM_quote xa σ).1) (wo (f_SM_quote xa σ)) := by
  have hC := c_SM_quote (D := D) (rh := rh) (cA := cA) hlt xa σ hI
  have hk := k_SM_quote xa σ
  generalize f_SM_quote xa σ = F at hC hk ⊢
  refine CWI.of rfl (Nat.le_of_ble_eq_true rfl) ?_
  intro p9 e s m args below meth c A Q X htb hend
  refine v_lv (lv' := [(0, .ref (rh iSM)), (1, .int xa), (2, .ref (rh iOUT))]) [0, 1, 2] rfl ?_
  refine v_aload_n X 2 dL_quote_0 rfl rfl ?_
  refine v_iconst (v := 0) X dL_quote_1 (by decide) ?_
  refine v_aload_n X 0 dL_quote_2 rfl rfl ?_
  refine v_iload_n X 1 dL_quote_3 rfl rfl ?_
  refine v_callV_CFI (rest := [.int 0, .ref (rh iOUT)]) X [.int xa] hC mf_SM_quote wi_SM_quote wl_SM_quote lt_SM sh_SM rfl wm_LA_45 rfl ⟨by decide, by decide⟩ (Nat.le_of_ble_eq_true rfl) ⟨by decide, by decide⟩ dL_quote_4 (fun h0 => ?_) (fun h0 => ?_)
  · rcases hk with h1 | h1
    · exact absurd h1 h0
    · rw [h1, exN2]
      refine v_catch (name := "java/lang/IllegalStateException") X [] ⟨0, 9, 12, 15⟩ [] (htb.trans rfl) (fun z hz => nomatch hz) rfl (by decide) wcl_2 wcast_2 (fun q => ?_)
      refine v_astore_n (pc := 12) (lv' := [(3, .ref q), (0, .ref (rh iSM)), (1, .int xa), (2, .ref (rh iOUT))]) X dL_quote_12 rfl (by decide) rfl ?_
      refine v_iconst (pc := 13) (v := 1) X dL_quote_13 (by decide) ?_
      exact hend 14 _ _ _ _ _ (if_neg h0) (if_neg h0) (by decide) (by decide) dL_quote_14
  · refine v_i2l X dL_quote_7 ?_
    refine v_last (i := iOUT) (t0 := 4) X lt_OUT sh_OUT rfl (vin_mk (by decide) (by decide)) dL_quote_8 ?_
    refine v_goto (tgt := 15) X dL_quote_9 (by decide) ?_
    refine v_iconst (v := 0) X dL_quote_15 (by decide) ?_
    exact hend _ _ _ _ _ _ (if_pos h0) (if_pos h0) (by decide) (by decide) dL_quote_16
theorem k_SM_register (xa : Int32) (xb : Int32) (σ : St) : k12 (f_SM_register xa xb σ).1 := by
  unfold f_SM_register
  repeat' with_reducible first | exact k12_0 .. | exact k12_b .. | exact k12_n .. | refine k12_ite ?_ ?_
set_option maxHeartbeats 4000000 in
set_option maxRecDepth 100000 in
theorem c_LA_register (hlt : l.stackTraces = false) (xa : Int32) (xb : Int32) (σ : St) (hI : Ic σ) : CWI l D (tyL cA) rh (rcW rh cA) NW yL_register cL_register 5 [(0, 10, 13, 13), (0, 10, 17, 15)] 8 3 18 [.ref (rh iSM), .int xa, .int xb, .ref (rh iOUT)] σ (f_SM_register xa xb σ).1 (wo (f_SM_register xa xb σ)) := by
  have hC := c_SM_register (D := D) (rh := rh) (cA := cA) hlt xa xb σ hI
  have hk := k_SM_register xa xb σ
  generalize f_SM_register xa xb σ = F at hC hk ⊢
  refine CWI.of rfl (Nat.le_of_ble_eq_true rfl) ?_
  intro p9 e s m args below meth c A Q X htb hend
  refine v_lv (lv' := [(0, .ref (rh iSM)), (1, .int xa), (2, .int xb), (3, .ref (rh iOUT))]) [0, 1, 2, 3] rfl ?_
  refine v_aload_n X 3 dL_register_0 rfl rfl ?_
  refine v_iconst (v := 0) X dL_register_1 (by decide) ?_
  refine v_aload_n X 0 dL_register_2 rfl rfl ?_
  refine v_iload_n X 1 dL_register_3 rfl rfl ?_
  refine v_iload_n X 2 dL_register_4 rfl rfl ?_
  refine v_callV_CFI (rest := [.int 0, .ref (rh iOUT)]) X [.int xa, .int xb] hC mf_SM_register wi_SM_register wl_SM_register lt_SM sh_SM rfl wm_LA_48 rfl ⟨by decide, by decide⟩ (Nat.le_of_ble_eq_true rfl) ⟨by decide, by decide⟩ dL_register_5 (fun h0 => ?_) (fun h0 => ?_)
  · rcases hk with h1 | h1 | h1
    · exact absurd h1 h0
    · rw [h1, exN1]
      refine v_catch (name := "java/lang/IllegalArgumentException") X [] ⟨0, 10, 13, 13⟩ [⟨0, 10, 17, 15⟩] (htb.trans rfl) (fun z hz => nomatch hz) rfl (by decide) wcl_1 wcast_1 (fun q => ?_)
      refine v_astore (pc := 13) (lv' := [(4, .ref q), (0, .ref (rh iSM)), (1, .int xa), (2, .int xb), (3, .ref (rh iOUT))]) X dL_register_13 (by decide) rfl ?_
      refine v_iconst (pc := 15) (v := 1) X dL_register_15 (by decide) ?_
      exact hend 16 _ _ _ _ _ h1 (if_neg h0) (by decide) (by decide) dL_register_16
    · rw [h1, exN2]
      refine v_catch (name := "java/lang/IllegalStateException") X [⟨0, 10, 13, 13⟩] ⟨0, 10, 17, 15⟩ [] (htb.trans rfl) (fun z hz => by cases List.mem_singleton.mp hz; exact Or.inr ⟨by decide, _, wcl_1, X.2.2.2.2.2.2.1.2.1⟩) rfl (by decide) wcl_2 wcast_2 (fun q => ?_)
      refine v_astore (pc := 17) (lv' := [(4, .ref q), (0, .ref (rh iSM)), (1, .int xa), (2, .int xb), (3, .ref (rh iOUT))]) X dL_register_17 (by decide) rfl ?_
      refine v_iconst (pc := 19) (v := 2) X dL_register_19 (by decide) ?_
      exact hend 20 _ _ _ _ _ h1 (if_neg h0) (by decide) (by decide) dL_register_20
  · refine v_i2l X dL_register_8 ?_
    refine v_last (i := iOUT) (t0 := 4) X lt_OUT sh_OUT rfl (vin_mk (by decide) (by decide)) dL_register_9 ?_
    refine v_goto (tgt := 21) X dL_register_10 (by decide) ?_
    refine v_iconst (v := 0) X dL_register_21 (by decide) ?_
    exact hend _ _ _ _ _ _ h0 (if_pos h0) (by decide) (by decide) dL_register_22
theorem k_SM_memory (xa : Int32) (σ : St) : k01 (f_SM_memory xa σ).1 := by
  unfold f_SM_memory
  repeat' with_reducible first | exact k01_0 .. | exact k01_b .. | refine k01_ite ?_ ?_
set_option maxHeartbeats 4000000 in
set_option maxRecDepth 100000 in
theorem c_LA_memory (hlt : l.stackTraces = false) (xa : Int32) (σ : St) (hI : Ic σ) : CWI l D (tyL cA) rh (rcW rh cA) NW yL_memory cL_memory 4 [(0, 9, 12, 13)] 8 3 18 [.ref (rh iSM), .int xa, .ref (rh iOUT)] σ (f_SM_memory xa σ).1 (wo (f_SM_memory xa σ)) := by
  have hC := c_SM_memory (D := D) (rh := rh) (cA := cA) hlt xa σ hI
  have hk := k_SM_memory xa σ
  generalize f_SM_memory xa σ = F at hC hk ⊢
  refine CWI.of rfl (Nat.le_of_ble_eq_true rfl) ?_
  intro p9 e s m args below meth c A Q X htb hend
  refine v_lv (lv' := [(0, .ref (rh iSM)), (1, .int xa), (2, .ref (rh iOUT))]) [0, 1, 2] rfl ?_
  refine v_aload_n X 2 dL_memory_0 rfl rfl ?_
  refine v_iconst (v := 0) X dL_memory_1 (by decide) ?_
  refine v_aload_n X 0 dL_memory_2 rfl rfl ?_
  refine v_iload_n X 1 dL_memory_3 rfl rfl ?_
  refine v_callV_CFI (rest := [.int 0, .ref (rh iOUT)]) X [.int xa] hC mf_SM_memory wi_SM_memory wl_SM_memory lt_SM sh_SM rfl wm_LA_51 rfl ⟨by decide, by decide⟩ (Nat.le_of_ble_eq_true rfl) ⟨by decide, by decide⟩ dL_memory_4 (fun h0 => ?_) (fun h0 => ?_)
  · rcases hk with h1 | h1
    · exact absurd h1 h0
    · rw [h1, exN1]
      refine v_catch (name := "java/lang/IllegalArgumentException") X [] ⟨0, 9, 12, 13⟩ [] (htb.trans rfl) (fun z hz => nomatch hz) rfl (by decide) wcl_1 wcast_1 (fun q => ?_)
      refine v_astore_n (pc := 12) (lv' := [(3, .ref q), (0, .ref (rh iSM)), (1, .int xa), (2, .ref (rh iOUT))]) X dL_memory_12 rfl (by decide) rfl ?_
      refine v_iconst (pc := 13) (v := 1) X dL_memory_13 (by decide) ?_
      exact hend 14 _ _ _ _ _ h1 (if_neg h0) (by decide) (by decide) dL_memory_14
  · refine v_i2l X dL_memory_7 ?_
    refine v_last (i := iOUT) (t0 := 4) X lt_OUT sh_OUT rfl (vin_mk (by decide) (by decide)) dL_memory_8 ?_
    refine v_goto (tgt := 15) X dL_memory_9 (by decide) ?_
    refine v_iconst (v := 0) X dL_memory_15 (by decide) ?_
    exact hend _ _ _ _ _ _ h0 (if_pos h0) (by decide) (by decide) dL_memory_16
theorem k_SM_told (xa : Int32) (xb : Int32) (σ : St) : k01 (f_SM_told xa xb σ).1 := by
  unfold f_SM_told
  repeat' with_reducible first | exact k01_0 .. | exact k01_b .. | refine k01_ite ?_ ?_
set_option maxHeartbeats 4000000 in
set_option maxRecDepth 100000 in
theorem c_LA_told (hlt : l.stackTraces = false) (xa : Int32) (xb : Int32) (σ : St) (hI : Ic σ) : CWI l D (tyL cA) rh (rcW rh cA) NW yL_told cL_told 5 [(0, 10, 13, 13)] 8 3 18 [.ref (rh iSM), .int xa, .int xb, .ref (rh iOUT)] σ (f_SM_told xa xb σ).1 (wo (f_SM_told xa xb σ)) := by
  have hC := c_SM_told (D := D) (rh := rh) (cA := cA) hlt xa xb σ hI
  have hk := k_SM_told xa xb σ
  generalize f_SM_told xa xb σ = F at hC hk ⊢
  refine CWI.of rfl (Nat.le_of_ble_eq_true rfl) ?_
  intro p9 e s m args below meth c A Q X htb hend
  refine v_lv (lv' := [(0, .ref (rh iSM)), (1, .int xa), (2, .int xb), (3, .ref (rh iOUT))]) [0, 1, 2, 3] rfl ?_
  refine v_aload_n X 3 dL_told_0 rfl rfl ?_
  refine v_iconst (v := 0) X dL_told_1 (by decide) ?_
  refine v_aload_n X 0 dL_told_2 rfl rfl ?_
  refine v_iload_n X 1 dL_told_3 rfl rfl ?_
  refine v_iload_n X 2 dL_told_4 rfl rfl ?_
  refine v_callV_CFI (rest := [.int 0, .ref (rh iOUT)]) X [.int xa, .int xb] hC mf_SM_told wi_SM_told wl_SM_told lt_SM sh_SM rfl wm_LA_54 rfl ⟨by decide, by decide⟩ (Nat.le_of_ble_eq_true rfl) ⟨by decide, by decide⟩ dL_told_5 (fun h0 => ?_) (fun h0 => ?_)
  · rcases hk with h1 | h1
    · exact absurd h1 h0
    · rw [h1, exN1]
      refine v_catch (name := "java/lang/IllegalArgumentException") X [] ⟨0, 10, 13, 13⟩ [] (htb.trans rfl) (fun z hz => nomatch hz) rfl (by decide) wcl_1 wcast_1 (fun q => ?_)
      refine v_astore (pc := 13) (lv' := [(4, .ref q), (0, .ref (rh iSM)), (1, .int xa), (2, .int xb), (3, .ref (rh iOUT))]) X dL_told_13 (by decide) rfl ?_
      refine v_iconst (pc := 15) (v := 1) X dL_told_15 (by decide) ?_
      exact hend 16 _ _ _ _ _ h1 (if_neg h0) (by decide) (by decide) dL_told_16
  · refine v_i2l X dL_told_8 ?_
    refine v_last (i := iOUT) (t0 := 4) X lt_OUT sh_OUT rfl (vin_mk (by decide) (by decide)) dL_told_9 ?_
    refine v_goto (tgt := 17) X dL_told_10 (by decide) ?_
    refine v_iconst (v := 0) X dL_told_17 (by decide) ?_
    exact hend _ _ _ _ _ _ h0 (if_pos h0) (by decide) (by decide) dL_told_18
theorem k_SM_object (xa : Int32) (xb : Int32) (σ : St) : k01 (f_SM_object xa xb σ).1 := by
  unfold f_SM_object
  repeat' with_reducible first | exact k01_0 .. | exact k01_b .. | refine k01_ite ?_ ?_
set_option maxHeartbeats 4000000 in
set_option maxRecDepth 100000 in
theorem c_LA_object (hlt : l.stackTraces = false) (xa : Int32) (xb : Int32) (σ : St) (hI : Ic σ) : CWI l D (tyL cA) rh (rcW rh cA) NW yL_object cL_object 5 [(0, 10, 13, 13)] 8 3 18 [.ref (rh iSM), .int xa, .int xb, .ref (rh iOUT)] σ (f_SM_object xa xb σ).1 (wo (f_SM_object xa xb σ)) := by
  have hC := c_SM_object (D := D) (rh := rh) (cA := cA) hlt xa xb σ hI
  have hk := k_SM_object xa xb σ
  generalize f_SM_object xa xb σ = F at hC hk ⊢
  refine CWI.of rfl (Nat.le_of_ble_eq_true rfl) ?_
  intro p9 e s m args below meth c A Q X htb hend
  refine v_lv (lv' := [(0, .ref (rh iSM)), (1, .int xa), (2, .int xb), (3, .ref (rh iOUT))]) [0, 1, 2, 3] rfl ?_
  refine v_aload_n X 3 dL_object_0 rfl rfl ?_
  refine v_iconst (v := 0) X dL_object_1 (by decide) ?_
  refine v_aload_n X 0 dL_object_2 rfl rfl ?_
  refine v_iload_n X 1 dL_object_3 rfl rfl ?_
  refine v_iload_n X 2 dL_object_4 rfl rfl ?_
  refine v_callV_CFI (rest := [.int 0, .ref (rh iOUT)]) X [.int xa, .int xb] hC mf_SM_object wi_SM_object wl_SM_object lt_SM sh_SM rfl wm_LA_57 rfl ⟨by decide, by decide⟩ (Nat.le_of_ble_eq_true rfl) ⟨by decide, by decide⟩ dL_object_5 (fun h0 => ?_) (fun h0 => ?_)
  · rcases hk with h1 | h1
    · exact absurd h1 h0
    · rw [h1, exN1]
      refine v_catch (name := "java/lang/IllegalArgumentException") X [] ⟨0, 10, 13, 13⟩ [] (htb.trans rfl) (fun z hz => nomatch hz) rfl (by decide) wcl_1 wcast_1 (fun q => ?_)
      refine v_astore (pc := 13) (lv' := [(4, .ref q), (0, .ref (rh iSM)), (1, .int xa), (2, .int xb), (3, .ref (rh iOUT))]) X dL_object_13 (by decide) rfl ?_
      refine v_iconst (pc := 15) (v := 1) X dL_object_15 (by decide) ?_
      exact hend 16 _ _ _ _ _ h1 (if_neg h0) (by decide) (by decide) dL_object_16
  · refine v_i2l X dL_object_8 ?_
    refine v_last (i := iOUT) (t0 := 4) X lt_OUT sh_OUT rfl (vin_mk (by decide) (by decide)) dL_object_9 ?_
    refine v_goto (tgt := 17) X dL_object_10 (by decide) ?_
    refine v_iconst (v := 0) X dL_object_17 (by decide) ?_
    exact hend _ _ _ _ _ _ h0 (if_pos h0) (by decide) (by decide) dL_object_18
end CLS
