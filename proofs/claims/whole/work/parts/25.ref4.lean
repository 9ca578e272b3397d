theorem kd_in {w : Int32} (h : ¬ (16 : Int32) ≤ ((ushr w 7) &&& 31)) : vp_in ((ushr w 7) &&& 31) 16 := by
  have h1 : vp_in ((ushr w 7) &&& 31) 32 := pk_andIn (ushr w 7) (m := 31) 5 (by decide) (by decide)
  obtain ⟨j, hj, ej⟩ := vp_in_of h1 (by decide)
  rw [ej] at h ⊢
  rw [ile, nI_toInt (by omega)] at h
  have z : (16 : Int32).toInt = 16 := by decide
  exact vp_in_nI (by omega) (by decide)
theorem kd_55 {w : Int32} (hk : ¬ f_MO_known w = 0) (ho : (w &&& 127) = 55) : vp_in ((ushr w 7) &&& 31) 16 := kd_in fun h => hk (by unfold f_MO_known; rw [ho]; simp [h])
theorem kd_23 {w : Int32} (hk : ¬ f_MO_known w = 0) (ho : (w &&& 127) = 23) : vp_in ((ushr w 7) &&& 31) 16 := kd_in fun h => hk (by unfold f_MO_known; rw [ho]; simp [h])
theorem kd_111 {w : Int32} (hk : ¬ f_MO_known w = 0) (ho : (w &&& 127) = 111) : vp_in ((ushr w 7) &&& 31) 16 := kd_in fun h => hk (by unfold f_MO_known; rw [ho]; simp [h])
theorem kd_103 {w : Int32} (hk : ¬ f_MO_known w = 0) (ho : (w &&& 127) = 103) : vp_in ((ushr w 7) &&& 31) 16 := kd_in fun h => hk (by unfold f_MO_known; rw [ho]; simp [h])
theorem kd_3 {w : Int32} (hk : ¬ f_MO_known w = 0) (ho : (w &&& 127) = 3) : vp_in ((ushr w 7) &&& 31) 16 := kd_in fun h => hk (by unfold f_MO_known; rw [ho]; simp [h])
theorem kd_19 {w : Int32} (hk : ¬ f_MO_known w = 0) (ho : (w &&& 127) = 19) : vp_in ((ushr w 7) &&& 31) 16 := kd_in fun h => hk (by unfold f_MO_known; rw [ho]; simp [h])
theorem kd_51 {w : Int32} (hk : ¬ f_MO_known w = 0) (ho : (w &&& 127) = 51) : vp_in ((ushr w 7) &&& 31) 16 := kd_in fun h => hk (by unfold f_MO_known; rw [ho]; simp [h])
theorem mf_MO_calls : MF yX8_calls cX8_calls 8 (some .int) 1 := ⟨gw_of (by decide +kernel) rfl, gw_of (by decide +kernel) rfl, by decide +kernel, by decide +kernel, by decide +kernel⟩
theorem mf_MO_goes : MF yX8_goes cX8_goes 5 (some .boolean) 3 := ⟨gw_of (by decide +kernel) rfl, gw_of (by decide +kernel) rfl, by decide +kernel, by decide +kernel, by decide +kernel⟩
theorem mf_MO_loads : MF yX8_loads cX8_loads 5 (some .int) 3 := ⟨gw_of (by decide +kernel) rfl, gw_of (by decide +kernel) rfl, by decide +kernel, by decide +kernel, by decide +kernel⟩
theorem mf_MO_stores : MF yX8_stores cX8_stores 5 (some .int) 3 := ⟨gw_of (by decide +kernel) rfl, gw_of (by decide +kernel) rfl, by decide +kernel, by decide +kernel, by decide +kernel⟩
theorem mf_MO_sum : MF yX8_sum cX8_sum 5 (some .int) 4 := ⟨gw_of (by decide +kernel) rfl, gw_of (by decide +kernel) rfl, by decide +kernel, by decide +kernel, by decide +kernel⟩
theorem wi_MO_calls : Cond.instanceMethod yX8_calls ∈ gw := gw_of (by decide +kernel) rfl
theorem wi_MO_goes : Cond.instanceMethod yX8_goes ∈ gw := gw_of (by decide +kernel) rfl
theorem wi_MO_loads : Cond.instanceMethod yX8_loads ∈ gw := gw_of (by decide +kernel) rfl
theorem wi_MO_stores : Cond.instanceMethod yX8_stores ∈ gw := gw_of (by decide +kernel) rfl
theorem wi_MO_sum : Cond.instanceMethod yX8_sum ∈ gw := gw_of (by decide +kernel) rfl
theorem wk_MO_147 : Cond.constant RX8 147 (1044480) ∈ gw := gw_of (by decide +kernel) rfl
theorem wl_MO_calls : Cond.selects yX8_calls.cls yX8_calls yX8_calls ∈ gw := gw_of (by decide +kernel) rfl
theorem wl_MO_goes : Cond.selects yX8_goes.cls yX8_goes yX8_goes ∈ gw := gw_of (by decide +kernel) rfl
theorem wl_MO_loads : Cond.selects yX8_loads.cls yX8_loads yX8_loads ∈ gw := gw_of (by decide +kernel) rfl
theorem wl_MO_stores : Cond.selects yX8_stores.cls yX8_stores yX8_stores ∈ gw := gw_of (by decide +kernel) rfl
theorem wl_MO_sum : Cond.selects yX8_sum.cls yX8_sum yX8_sum ∈ gw := gw_of (by decide +kernel) rfl
theorem wm_MO_148 : Cond.methodLink RX8 148 yX8_goes ∈ gw := gw_of (by decide +kernel) rfl
theorem wm_MO_152 : Cond.methodLink RX8 152 yX8_loads ∈ gw := gw_of (by decide +kernel) rfl
theorem wm_MO_156 : Cond.methodLink RX8 156 yX8_stores ∈ gw := gw_of (by decide +kernel) rfl
theorem wm_MO_159 : Cond.methodLink RX8 159 yX8_sum ∈ gw := gw_of (by decide +kernel) rfl
theorem wm_MO_163 : Cond.methodLink RX8 163 yX8_calls ∈ gw := gw_of (by decide +kernel) rfl
section CLS
variable {l : Launch} {D : va_G} {rh : Nat → Nat} {cA : Nat → ClassId}
def f_MO_perform (xa : Int32) (xb : Int32) (σ : St) : Int32 × St :=
  (if (xb &&& 127) = 55 then (0, (up (f_MO_put xa ((ushr xb 7) &&& 31) (xb &&& (-4096)) σ) i_pc (xa).toNatClampNeg ((σ i_pc (xa).toNatClampNeg) + 4))) else (if (xb &&& 127) = 23 then (0, (up (f_MO_put xa ((ushr xb 7) &&& 31) ((σ i_pc (xa).toNatClampNeg) + (xb &&& (-4096))) σ) i_pc (xa).toNatClampNeg ((σ i_pc (xa).toNatClampNeg) + 4))) else (if (xb &&& 127) = 111 then (0, (up (f_MO_put xa ((ushr xb 7) &&& 31) ((σ i_pc (xa).toNatClampNeg) + 4) σ) i_pc (xa).toNatClampNeg ((σ i_pc (xa).toNatClampNeg) + ((((shl (sshr xb 31) 20) ||| (xb &&& 1044480)) ||| (shl ((ushr xb 20) &&& 1) 11)) ||| (shl ((ushr xb 21) &&& 1023) 1))))) else (if (xb &&& 127) = 103 then (0, (up (f_MO_put xa ((ushr xb 7) &&& 31) ((σ i_pc (xa).toNatClampNeg) + 4) σ) i_pc (xa).toNatClampNeg (((σ i_register (((xa * 16) + ((ushr xb 15) &&& 15))).toNatClampNeg) + (sshr xb 20)) &&& (-2)))) else (if (xb &&& 127) = 99 then (if (f_MO_goes ((ushr xb 12) &&& 7) (σ i_register (((xa * 16) + ((ushr xb 15) &&& 15))).toNatClampNeg) (σ i_register (((xa * 16) + ((ushr xb 20) &&& 15))).toNatClampNeg)) = 0 then (0, (up σ i_pc (xa).toNatClampNeg ((σ i_pc (xa).toNatClampNeg) + 4))) else (0, (up σ i_pc (xa).toNatClampNeg ((σ i_pc (xa).toNatClampNeg) + ((((shl (sshr xb 31) 12) ||| (shl ((ushr xb 7) &&& 1) 11)) ||| (shl ((ushr xb 25) &&& 63) 5)) ||| (shl ((ushr xb 8) &&& 15) 1)))))) else (if (xb &&& 127) = 3 then (if (f_MO_loads xa ((σ i_register (((xa * 16) + ((ushr xb 15) &&& 15))).toNatClampNeg) + (sshr xb 20)) ((ushr xb 7) &&& 31) σ).1 = 0 then ((f_MO_loads xa ((σ i_register (((xa * 16) + ((ushr xb 15) &&& 15))).toNatClampNeg) + (sshr xb 20)) ((ushr xb 7) &&& 31) σ).1, (up (f_MO_loads xa ((σ i_register (((xa * 16) + ((ushr xb 15) &&& 15))).toNatClampNeg) + (sshr xb 20)) ((ushr xb 7) &&& 31) σ).2 i_pc (xa).toNatClampNeg ((σ i_pc (xa).toNatClampNeg) + 4))) else ((f_MO_loads xa ((σ i_register (((xa * 16) + ((ushr xb 15) &&& 15))).toNatClampNeg) + (sshr xb 20)) ((ushr xb 7) &&& 31) σ).1, (f_MO_loads xa ((σ i_register (((xa * 16) + ((ushr xb 15) &&& 15))).toNatClampNeg) + (sshr xb 20)) ((ushr xb 7) &&& 31) σ).2)) else (if (xb &&& 127) = 35 then (if (f_MO_stores xa ((σ i_register (((xa * 16) + ((ushr xb 15) &&& 15))).toNatClampNeg) + ((shl (sshr xb 25) 5) ||| ((ushr xb 7) &&& 31))) (σ i_register (((xa * 16) + ((ushr xb 20) &&& 15))).toNatClampNeg) σ).1 = 0 then ((f_MO_stores xa ((σ i_register (((xa * 16) + ((ushr xb 15) &&& 15))).toNatClampNeg) + ((shl (sshr xb 25) 5) ||| ((ushr xb 7) &&& 31))) (σ i_register (((xa * 16) + ((ushr xb 20) &&& 15))).toNatClampNeg) σ).1, (up (f_MO_stores xa ((σ i_register (((xa * 16) + ((ushr xb 15) &&& 15))).toNatClampNeg) + ((shl (sshr xb 25) 5) ||| ((ushr xb 7) &&& 31))) (σ i_register (((xa * 16) + ((ushr xb 20) &&& 15))).toNatClampNeg) σ).2 i_pc (xa).toNatClampNeg ((σ i_pc (xa).toNatClampNeg) + 4))) else ((f_MO_stores xa ((σ i_register (((xa * 16) + ((ushr xb 15) &&& 15))).toNatClampNeg) + ((shl (sshr xb 25) 5) ||| ((ushr xb 7) &&& 31))) (σ i_register (((xa * 16) + ((ushr xb 20) &&& 15))).toNatClampNeg) σ).1, (f_MO_stores xa ((σ i_register (((xa * 16) + ((ushr xb 15) &&& 15))).toNatClampNeg) + ((shl (sshr xb 25) 5) ||| ((ushr xb 7) &&& 31))) (σ i_register (((xa * 16) + ((ushr xb 20) &&& 15))).toNatClampNeg) σ).2)) else (if (xb &&& 127) = 19 then (0, (up (f_MO_put xa ((ushr xb 7) &&& 31) (f_MO_sum ((ushr xb 12) &&& 7) (σ i_register (((xa * 16) + ((ushr xb 15) &&& 15))).toNatClampNeg) ((if ((ushr xb 12) &&& 7) = 1 then ((ushr xb 20) &&& 31) else (if ((ushr xb 12) &&& 7) = 5 then ((ushr xb 20) &&& 31) else (sshr xb 20))) : Int32) ((if ((ushr xb 12) &&& 7) = 5 then (if (ushr xb 25) = 32 then 1 else 0) else 0) : Int32)) σ) i_pc (xa).toNatClampNeg ((σ i_pc (xa).toNatClampNeg) + 4))) else (if (xb &&& 127) = 51 then (0, (up (f_MO_put xa ((ushr xb 7) &&& 31) (f_MO_sum ((ushr xb 12) &&& 7) (σ i_register (((xa * 16) + ((ushr xb 15) &&& 15))).toNatClampNeg) ((if ((ushr xb 12) &&& 7) = 1 then ((σ i_register (((xa * 16) + ((ushr xb 20) &&& 15))).toNatClampNeg) &&& 31) else (if ((ushr xb 12) &&& 7) = 5 then ((σ i_register (((xa * 16) + ((ushr xb 20) &&& 15))).toNatClampNeg) &&& 31) else (σ i_register (((xa * 16) + ((ushr xb 20) &&& 15))).toNatClampNeg))) : Int32) ((if (ushr xb 25) = 32 then 1 else 0) : Int32)) σ) i_pc (xa).toNatClampNeg ((σ i_pc (xa).toNatClampNeg) + 4))) else (if xb = 115 then (if (f_MO_calls xa σ).1 = 0 then ((f_MO_calls xa σ).1, (up (f_MO_calls xa σ).2 i_pc (xa).toNatClampNeg ((σ i_pc (xa).toNatClampNeg) + 4))) else ((f_MO_calls xa σ).1, (f_MO_calls xa σ).2)) else (4, σ)))))))))))
set_option maxHeartbeats 4000000 in
set_option maxRecDepth 100000 in
theorem c_MO_perform (xa : Int32) (xb : Int32) (σ : St) (hI : Im σ) (hq : vp_in xa 4) (hk : ¬ f_MO_known xb = 0) : CI l D (tyL cA) rh (rcW rh cA) NW yX8_perform cX8_perform 11 .int 2 [.ref (rh iMO), .int xa, .int xb] σ (f_MO_perform xa xb σ).1 (f_MO_perform xa xb σ).2 := by
  refine CI.of rfl (Nat.le_of_ble_eq_true rfl) rfl ?_
  intro p9 e s m args below meth c A Q X hend
  refine v_lv (lv' := [(0, .ref (rh iMO)), (1, .int xa), (2, .int xb)]) [0, 1, 2] rfl ?_
  refine v_iload_n X 2 dX8_perform_0 rfl rfl ?_
  refine v_bipush (v := 127) X dX8_perform_1 (by decide) ?_
  refine v_iand X dX8_perform_3 ?_
  refine v_istore_n (lv' := [(3, .int (xb &&& 127)), (0, .ref (rh iMO)), (1, .int xa), (2, .int xb)]) X dX8_perform_4 rfl (by decide) rfl ?_
  refine v_iload_n X 3 dX8_perform_5 rfl rfl ?_
  refine v_bipush (v := 12) X dX8_perform_6 (by decide) ?_
  refine v_iushr X dX8_perform_8 ?_
  refine v_bipush (v := 7) X dX8_perform_9 (by decide) ?_
  refine v_iand X dX8_perform_11 ?_
  refine v_istore (lv' := [(4, .int ((ushr xb 12) &&& 7)), (3, .int (xb &&& 127)), (0, .ref (rh iMO)), (1, .int xa), (2, .int xb)]) X dX8_perform_12 (by decide) rfl ?_
  refine v_iload_n X 4 dX8_perform_14 rfl rfl ?_
  refine v_bipush (v := 7) X dX8_perform_15 (by decide) ?_
  refine v_iushr X dX8_perform_17 ?_
  refine v_bipush (v := 31) X dX8_perform_18 (by decide) ?_
  refine v_iand X dX8_perform_20 ?_
  refine v_istore (lv' := [(5, .int ((ushr xb 7) &&& 31)), (4, .int ((ushr xb 12) &&& 7)), (3, .int (xb &&& 127)), (0, .ref (rh iMO)), (1, .int xa), (2, .int xb)]) X dX8_perform_21 (by decide) rfl ?_
  refine v_aload_n X 3 dX8_perform_23 rfl rfl ?_
  refine v_getR (j := i_register) (i := iMO) (k := 2) X (lt_MO ) (sh_MO ) rfl in_MO (by decide) wf_MO_16 rfl (fun _ => rfl) dX8_perform_24 ?_
  refine v_iload_n X 4 dX8_perform_27 rfl rfl ?_
  refine v_bipush (v := 16) X dX8_perform_28 (by decide) ?_
  refine v_imul X dX8_perform_30 ?_
  refine v_iload_n X 5 dX8_perform_31 rfl rfl ?_
  refine v_bipush (v := 15) X dX8_perform_32 (by decide) ?_
  refine v_iushr X dX8_perform_34 ?_
  refine v_bipush (v := 15) X dX8_perform_35 (by decide) ?_
  refine v_iand X dX8_perform_37 ?_
  refine v_iadd X dX8_perform_38 ?_
  have hv39 : vp_in ((xa * 16) + ((ushr xb 15) &&& 15)) 64 := (vreg hq (pk_andIn _ 4 (by decide) (by decide)))
  refine v_iald (i := i_register) (t0 := 0) X (lt_m_register ) (sh_m_register ) rfl hv39 dX8_perform_39 ?_
  refine v_istore (lv' := [(6, .int (σ i_register (((xa * 16) + ((ushr xb 15) &&& 15))).toNatClampNeg)), (5, .int ((ushr xb 7) &&& 31)), (4, .int ((ushr xb 12) &&& 7)), (3, .int (xb &&& 127)), (0, .ref (rh iMO)), (1, .int xa), (2, .int xb)]) X dX8_perform_40 (by decide) rfl ?_
  refine v_aload_n X 4 dX8_perform_42 rfl rfl ?_
  refine v_getR (j := i_register) (i := iMO) (k := 2) X (lt_MO ) (sh_MO ) rfl in_MO (by decide) wf_MO_16 rfl (fun _ => rfl) dX8_perform_43 ?_
  refine v_iload_n X 5 dX8_perform_46 rfl rfl ?_
  refine v_bipush (v := 16) X dX8_perform_47 (by decide) ?_
  refine v_imul X dX8_perform_49 ?_
  refine v_iload_n X 6 dX8_perform_50 rfl rfl ?_
  refine v_bipush (v := 20) X dX8_perform_51 (by decide) ?_
  refine v_iushr X dX8_perform_53 ?_
  refine v_bipush (v := 15) X dX8_perform_54 (by decide) ?_
  refine v_iand X dX8_perform_56 ?_
  refine v_iadd X dX8_perform_57 ?_
  have hv58 : vp_in ((xa * 16) + ((ushr xb 20) &&& 15)) 64 := (vreg hq (pk_andIn _ 4 (by decide) (by decide)))
  refine v_iald (i := i_register) (t0 := 0) X (lt_m_register ) (sh_m_register ) rfl hv58 dX8_perform_58 ?_
  refine v_istore (lv' := [(7, .int (σ i_register (((xa * 16) + ((ushr xb 20) &&& 15))).toNatClampNeg)), (6, .int (σ i_register (((xa * 16) + ((ushr xb 15) &&& 15))).toNatClampNeg)), (5, .int ((ushr xb 7) &&& 31)), (4, .int ((ushr xb 12) &&& 7)), (3, .int (xb &&& 127)), (0, .ref (rh iMO)), (1, .int xa), (2, .int xb)]) X dX8_perform_59 (by decide) rfl ?_
  refine v_aload_n X 5 dX8_perform_61 rfl rfl ?_
  refine v_getR (j := i_pc) (i := iMO) (k := 6) X (lt_MO ) (sh_MO ) rfl in_MO (by decide) wf_MO_28 rfl (fun _ => rfl) dX8_perform_62 ?_
  refine v_iload_n X 6 dX8_perform_65 rfl rfl ?_
  have hv66 : vp_in xa 4 := hq
  refine v_iald (i := i_pc) (t0 := 0) X (lt_m_pc ) (sh_m_pc ) rfl hv66 dX8_perform_66 ?_
  refine v_istore (lv' := [(8, .int (σ i_pc (xa).toNatClampNeg)), (7, .int (σ i_register (((xa * 16) + ((ushr xb 20) &&& 15))).toNatClampNeg)), (6, .int (σ i_register (((xa * 16) + ((ushr xb 15) &&& 15))).toNatClampNeg)), (5, .int ((ushr xb 7) &&& 31)), (4, .int ((ushr xb 12) &&& 7)), (3, .int (xb &&& 127)), (0, .ref (rh iMO)), (1, .int xa), (2, .int xb)]) X dX8_perform_67 (by decide) rfl ?_
  refine v_iload X 0 dX8_perform_69 rfl ?_
  refine v_iconst (v := 4) X dX8_perform_71 (by decide) ?_
  refine v_iadd X dX8_perform_72 ?_
  refine v_istore (lv' := [(9, .int ((σ i_pc (xa).toNatClampNeg) + 4)), (8, .int (σ i_pc (xa).toNatClampNeg)), (7, .int (σ i_register (((xa * 16) + ((ushr xb 20) &&& 15))).toNatClampNeg)), (6, .int (σ i_register (((xa * 16) + ((ushr xb 15) &&& 15))).toNatClampNeg)), (5, .int ((ushr xb 7) &&& 31)), (4, .int ((ushr xb 12) &&& 7)), (3, .int (xb &&& 127)), (0, .ref (rh iMO)), (1, .int xa), (2, .int xb)]) X dX8_perform_73 (by decide) rfl ?_
  refine v_iconst (v := 0) X dX8_perform_75 (by decide) ?_
  refine v_istore (lv' := [(10, .int 0), (9, .int ((σ i_pc (xa).toNatClampNeg) + 4)), (8, .int (σ i_pc (xa).toNatClampNeg)), (7, .int (σ i_register (((xa * 16) + ((ushr xb 20) &&& 15))).toNatClampNeg)), (6, .int (σ i_register (((xa * 16) + ((ushr xb 15) &&& 15))).toNatClampNeg)), (5, .int ((ushr xb 7) &&& 31)), (4, .int ((ushr xb 12) &&& 7)), (3, .int (xb &&& 127)), (0, .ref (rh iMO)), (1, .int xa), (2, .int xb)]) X dX8_perform_76 (by decide) rfl ?_
  refine v_iload_n X 7 dX8_perform_78 rfl rfl ?_
  refine v_bipush (v := 55) X dX8_perform_79 (by decide) ?_
  refine v_icmp_ne X 99 dX8_perform_81 (by decide) (fun h81 => ?_) (fun h81 => ?_)
  ·
    refine v_iload_n X 7 dX8_perform_99 rfl rfl ?_
    refine v_bipush (v := 23) X dX8_perform_100 (by decide) ?_
    refine v_icmp_ne X 123 dX8_perform_102 (by decide) (fun h102 => ?_) (fun h102 => ?_)
    ·
      refine v_iload_n X 7 dX8_perform_123 rfl rfl ?_
      refine v_bipush (v := 111) X dX8_perform_124 (by decide) ?_
      refine v_icmp_ne X 179 dX8_perform_126 (by decide) (fun h126 => ?_) (fun h126 => ?_)
      ·
        refine v_iload_n X 7 dX8_perform_179 rfl rfl ?_
        refine v_bipush (v := 103) X dX8_perform_180 (by decide) ?_
        refine v_icmp_ne X 209 dX8_perform_182 (by decide) (fun h182 => ?_) (fun h182 => ?_)
        ·
          refine v_iload_n X 7 dX8_perform_209 rfl rfl ?_
          refine v_bipush (v := 99) X dX8_perform_210 (by decide) ?_
          refine v_icmp_ne X 273 dX8_perform_212 (by decide) (fun h212 => ?_) (fun h212 => ?_)
          ·
            refine v_iload_n X 7 dX8_perform_273 rfl rfl ?_
            refine v_iconst (v := 3) X dX8_perform_274 (by decide) ?_
            refine v_icmp_ne X 297 dX8_perform_275 (by decide) (fun h275 => ?_) (fun h275 => ?_)
            ·
              refine v_iload_n X 7 dX8_perform_297 rfl rfl ?_
              refine v_bipush (v := 35) X dX8_perform_298 (by decide) ?_
              refine v_icmp_ne X 327 dX8_perform_300 (by decide) (fun h300 => ?_) (fun h300 => ?_)
              ·
                refine v_iload_n X 7 dX8_perform_327 rfl rfl ?_
                refine v_bipush (v := 19) X dX8_perform_328 (by decide) ?_
                refine v_icmp_ne X 397 dX8_perform_330 (by decide) (fun h330 => ?_) (fun h330 => ?_)
                ·
                  refine v_iload_n X 7 dX8_perform_397 rfl rfl ?_
                  refine v_bipush (v := 51) X dX8_perform_398 (by decide) ?_
                  refine v_icmp_ne X 457 dX8_perform_400 (by decide) (fun h400 => ?_) (fun h400 => ?_)
                  ·
                    refine v_iload_n X 10 dX8_perform_457 rfl rfl ?_
                    refine v_bipush (v := 115) X dX8_perform_458 (by decide) ?_
                    refine v_icmp_ne X 471 dX8_perform_460 (by decide) (fun h460 => ?_) (fun h460 => ?_)
                    ·
                      refine v_iconst (v := 4) X dX8_perform_471 (by decide) ?_
                      refine v_istore (lv' := [(10, .int 4), (9, .int ((σ i_pc (xa).toNatClampNeg) + 4)), (8, .int (σ i_pc (xa).toNatClampNeg)), (7, .int (σ i_register (((xa * 16) + ((ushr xb 20) &&& 15))).toNatClampNeg)), (6, .int (σ i_register (((xa * 16) + ((ushr xb 15) &&& 15))).toNatClampNeg)), (5, .int ((ushr xb 7) &&& 31)), (4, .int ((ushr xb 12) &&& 7)), (3, .int (xb &&& 127)), (0, .ref (rh iMO)), (1, .int xa), (2, .int xb)]) X dX8_perform_472 (by decide) rfl ?_
                      refine v_iload X 0 dX8_perform_474 rfl ?_
                      refine v_if_ne X 487 dX8_perform_476 (by decide) (fun h476 => ?_) (fun h476 => ?_)
                      ·
                        refine v_iload X 0 dX8_perform_487 rfl ?_
                        have e9 : f_MO_perform xa xb σ = (4, σ) := by simp only [f_MO_perform, if_neg h81, if_neg h102, if_neg h126, if_neg h182, if_neg h212, if_neg h275, if_neg h300, if_neg h330, if_neg h400, if_neg h460]
                        exact v_endI hend dX8_perform_489 (by rw [e9]) (by rw [e9])
                      · exact absurd h476 (by decide)
                    ·
                      refine v_aload_n X 8 dX8_perform_463 rfl rfl ?_
                      refine v_iload_n X 9 dX8_perform_464 rfl rfl ?_
                      refine v_callV_CI (rest := []) X [.int xa] (c_MO_calls xa σ hI (by assumption)) mf_MO_calls wi_MO_calls wl_MO_calls (lt_MO ) (sh_MO ) rfl wm_MO_163 rfl ⟨by decide, by decide⟩ (Nat.le_of_ble_eq_true rfl) ⟨by decide, by decide⟩ dX8_perform_465 ?_
                      generalize hg465 : (f_MO_calls xa σ) = g465
                      have hI465 : Im g465.2 := by rw [← hg465]; exact (I_MO_calls xa hI (by assumption))
                      refine v_goto (tgt := 472) X dX8_perform_468 (by decide) ?_
                      refine v_istore (lv' := [(10, .int g465.1), (9, .int ((σ i_pc (xa).toNatClampNeg) + 4)), (8, .int (σ i_pc (xa).toNatClampNeg)), (7, .int (σ i_register (((xa * 16) + ((ushr xb 20) &&& 15))).toNatClampNeg)), (6, .int (σ i_register (((xa * 16) + ((ushr xb 15) &&& 15))).toNatClampNeg)), (5, .int ((ushr xb 7) &&& 31)), (4, .int ((ushr xb 12) &&& 7)), (3, .int (xb &&& 127)), (0, .ref (rh iMO)), (1, .int xa), (2, .int xb)]) X dX8_perform_472 (by decide) rfl ?_
                      refine v_iload X 0 dX8_perform_474 rfl ?_
                      refine v_if_ne X 487 dX8_perform_476 (by decide) (fun h476 => ?_) (fun h476 => ?_)
                      ·
                        refine v_iload X 0 dX8_perform_487 rfl ?_
                        have e9 : f_MO_perform xa xb σ = (g465.1, g465.2) := by subst hg465; simp only [f_MO_perform, if_neg h81, if_neg h102, if_neg h126, if_neg h182, if_neg h212, if_neg h275, if_neg h300, if_neg h330, if_neg h400, if_pos h460, if_neg h476]
                        exact v_endI hend dX8_perform_489 (by rw [e9]) (by rw [e9])
                      ·
                        refine v_aload_n X 8 dX8_perform_479 rfl rfl ?_
                        refine v_getR (j := i_pc) (i := iMO) (k := 6) X (lt_MO ) (sh_MO ) rfl in_MO (by decide) wf_MO_28 rfl (fun _ => rfl) dX8_perform_480 ?_
                        refine v_iload_n X 9 dX8_perform_483 rfl rfl ?_
                        refine v_iload X 1 dX8_perform_484 rfl ?_
                        have hv486 : vp_in xa 4 := hq
                        refine v_iast (i := i_pc) (t0 := 0) X (lt_m_pc ) (sh_m_pc ) rfl hv486 dX8_perform_486 ?_
                        generalize hg486 : (up g465.2 i_pc (xa).toNatClampNeg ((σ i_pc (xa).toNatClampNeg) + 4)) = g486
                        have hI486 : Im g486 := by rw [← hg486]; exact (Im.upA hI465 (by decide))
                        refine v_iload X 0 dX8_perform_487 rfl ?_
                        have e9 : f_MO_perform xa xb σ = (g465.1, g486) := by subst hg465; subst hg486; simp only [f_MO_perform, if_neg h81, if_neg h102, if_neg h126, if_neg h182, if_neg h212, if_neg h275, if_neg h300, if_neg h330, if_neg h400, if_pos h460, if_pos h476]
                        exact v_endI hend dX8_perform_489 (by rw [e9]) (by rw [e9])
                  ·
                    refine v_aload_n X 8 dX8_perform_403 rfl rfl ?_
                    refine v_iload_n X 9 dX8_perform_404 rfl rfl ?_
                    refine v_iload X 5 dX8_perform_405 rfl ?_
                    refine v_aload_n X 8 dX8_perform_407 rfl rfl ?_
                    refine v_iload X 6 dX8_perform_408 rfl ?_
                    refine v_iload X 4 dX8_perform_410 rfl ?_
                    refine v_iload X 6 dX8_perform_412 rfl ?_
                    refine v_iconst (v := 1) X dX8_perform_414 (by decide) ?_
                    refine v_suff (pc2 := 434) (lv2 := [(10, .int 0), (9, .int ((σ i_pc (xa).toNatClampNeg) + 4)), (8, .int (σ i_pc (xa).toNatClampNeg)), (7, .int (σ i_register (((xa * 16) + ((ushr xb 20) &&& 15))).toNatClampNeg)), (6, .int (σ i_register (((xa * 16) + ((ushr xb 15) &&& 15))).toNatClampNeg)), (5, .int ((ushr xb 7) &&& 31)), (4, .int ((ushr xb 12) &&& 7)), (3, .int (xb &&& 127)), (0, .ref (rh iMO)), (1, .int xa), (2, .int xb)]) (st2 := [.int ((if ((ushr xb 12) &&& 7) = 1 then ((σ i_register (((xa * 16) + ((ushr xb 20) &&& 15))).toNatClampNeg) &&& 31) else (if ((ushr xb 12) &&& 7) = 5 then ((σ i_register (((xa * 16) + ((ushr xb 20) &&& 15))).toNatClampNeg) &&& 31) else (σ i_register (((xa * 16) + ((ushr xb 20) &&& 15))).toNatClampNeg))) : Int32), .int (σ i_register (((xa * 16) + ((ushr xb 15) &&& 15))).toNatClampNeg), .int ((ushr xb 12) &&& 7), .ref (rh iMO), .int ((ushr xb 7) &&& 31), .int xa, .ref (rh iMO)]) (σ2 := σ) ?_ (fun J415 => ?_)
                    rotate_left
                    ·
                      refine v_icmp_eq X 424 dX8_perform_415 (by decide) (fun h415 => ?_) (fun h415 => ?_)
                      ·
                        refine v_iload X 3 dX8_perform_424 rfl ?_
                        refine v_bipush (v := 31) X dX8_perform_426 (by decide) ?_
                        refine v_iand X dX8_perform_428 ?_
                        refine v_goto (tgt := 434) X dX8_perform_429 (by decide) ?_
                        have e9 : (((if ((ushr xb 12) &&& 7) = 1 then ((σ i_register (((xa * 16) + ((ushr xb 20) &&& 15))).toNatClampNeg) &&& 31) else (if ((ushr xb 12) &&& 7) = 5 then ((σ i_register (((xa * 16) + ((ushr xb 20) &&& 15))).toNatClampNeg) &&& 31) else (σ i_register (((xa * 16) + ((ushr xb 20) &&& 15))).toNatClampNeg))) : Int32) : Int32) = ((σ i_register (((xa * 16) + ((ushr xb 20) &&& 15))).toNatClampNeg) &&& 31) := by simp only [if_pos h415]
                        rw [e9] at J415
                        exact J415
                      ·
                        refine v_iload X 6 dX8_perform_418 rfl ?_
                        refine v_iconst (v := 5) X dX8_perform_420 (by decide) ?_
                        refine v_icmp_ne X 432 dX8_perform_421 (by decide) (fun h421 => ?_) (fun h421 => ?_)
                        ·
                          refine v_iload X 3 dX8_perform_432 rfl ?_
                          have e9 : (((if ((ushr xb 12) &&& 7) = 1 then ((σ i_register (((xa * 16) + ((ushr xb 20) &&& 15))).toNatClampNeg) &&& 31) else (if ((ushr xb 12) &&& 7) = 5 then ((σ i_register (((xa * 16) + ((ushr xb 20) &&& 15))).toNatClampNeg) &&& 31) else (σ i_register (((xa * 16) + ((ushr xb 20) &&& 15))).toNatClampNeg))) : Int32) : Int32) = (σ i_register (((xa * 16) + ((ushr xb 20) &&& 15))).toNatClampNeg) := by simp only [if_neg h415, if_neg h421]
                          rw [e9] at J415
                          exact J415
                        ·
                          refine v_iload X 3 dX8_perform_424 rfl ?_
                          refine v_bipush (v := 31) X dX8_perform_426 (by decide) ?_
                          refine v_iand X dX8_perform_428 ?_
                          refine v_goto (tgt := 434) X dX8_perform_429 (by decide) ?_
                          have e9 : (((if ((ushr xb 12) &&& 7) = 1 then ((σ i_register (((xa * 16) + ((ushr xb 20) &&& 15))).toNatClampNeg) &&& 31) else (if ((ushr xb 12) &&& 7) = 5 then ((σ i_register (((xa * 16) + ((ushr xb 20) &&& 15))).toNatClampNeg) &&& 31) else (σ i_register (((xa * 16) + ((ushr xb 20) &&& 15))).toNatClampNeg))) : Int32) : Int32) = ((σ i_register (((xa * 16) + ((ushr xb 20) &&& 15))).toNatClampNeg) &&& 31) := by simp only [if_neg h415, if_pos h421]
                          rw [e9] at J415
                          exact J415
                    refine v_iload_n X 10 dX8_perform_434 rfl rfl ?_
                    refine v_bipush (v := 25) X dX8_perform_435 (by decide) ?_
                    refine v_iushr X dX8_perform_437 ?_
                    refine v_bipush (v := 32) X dX8_perform_438 (by decide) ?_
                    refine v_suff (pc2 := 448) (lv2 := [(10, .int 0), (9, .int ((σ i_pc (xa).toNatClampNeg) + 4)), (8, .int (σ i_pc (xa).toNatClampNeg)), (7, .int (σ i_register (((xa * 16) + ((ushr xb 20) &&& 15))).toNatClampNeg)), (6, .int (σ i_register (((xa * 16) + ((ushr xb 15) &&& 15))).toNatClampNeg)), (5, .int ((ushr xb 7) &&& 31)), (4, .int ((ushr xb 12) &&& 7)), (3, .int (xb &&& 127)), (0, .ref (rh iMO)), (1, .int xa), (2, .int xb)]) (st2 := [.int ((if (ushr xb 25) = 32 then 1 else 0) : Int32), .int ((if ((ushr xb 12) &&& 7) = 1 then ((σ i_register (((xa * 16) + ((ushr xb 20) &&& 15))).toNatClampNeg) &&& 31) else (if ((ushr xb 12) &&& 7) = 5 then ((σ i_register (((xa * 16) + ((ushr xb 20) &&& 15))).toNatClampNeg) &&& 31) else (σ i_register (((xa * 16) + ((ushr xb 20) &&& 15))).toNatClampNeg))) : Int32), .int (σ i_register (((xa * 16) + ((ushr xb 15) &&& 15))).toNatClampNeg), .int ((ushr xb 12) &&& 7), .ref (rh iMO), .int ((ushr xb 7) &&& 31), .int xa, .ref (rh iMO)]) (σ2 := σ) ?_ (fun J440 => ?_)
                    rotate_left
                    ·
                      refine v_icmp_ne X 447 dX8_perform_440 (by decide) (fun h440 => ?_) (fun h440 => ?_)
                      ·
                        refine v_iconst (v := 0) X dX8_perform_447 (by decide) ?_
                        have e9 : (((if (ushr xb 25) = 32 then 1 else 0) : Int32) : Int32) = 0 := by simp only [if_neg h440]
                        rw [e9] at J440
                        exact J440
                      ·
                        refine v_iconst (v := 1) X dX8_perform_443 (by decide) ?_
                        refine v_goto (tgt := 448) X dX8_perform_444 (by decide) ?_
                        have e9 : (((if (ushr xb 25) = 32 then 1 else 0) : Int32) : Int32) = 1 := by simp only [if_pos h440]
                        rw [e9] at J440
                        exact J440
                    refine v_callV_CI (rest := [.int ((ushr xb 7) &&& 31), .int xa, .ref (rh iMO)]) X [.int ((ushr xb 12) &&& 7), .int (σ i_register (((xa * 16) + ((ushr xb 15) &&& 15))).toNatClampNeg), .int ((if ((ushr xb 12) &&& 7) = 1 then ((σ i_register (((xa * 16) + ((ushr xb 20) &&& 15))).toNatClampNeg) &&& 31) else (if ((ushr xb 12) &&& 7) = 5 then ((σ i_register (((xa * 16) + ((ushr xb 20) &&& 15))).toNatClampNeg) &&& 31) else (σ i_register (((xa * 16) + ((ushr xb 20) &&& 15))).toNatClampNeg))) : Int32), .int ((if (ushr xb 25) = 32 then 1 else 0) : Int32)] (c_MO_sum ((ushr xb 12) &&& 7) (σ i_register (((xa * 16) + ((ushr xb 15) &&& 15))).toNatClampNeg) ((if ((ushr xb 12) &&& 7) = 1 then ((σ i_register (((xa * 16) + ((ushr xb 20) &&& 15))).toNatClampNeg) &&& 31) else (if ((ushr xb 12) &&& 7) = 5 then ((σ i_register (((xa * 16) + ((ushr xb 20) &&& 15))).toNatClampNeg) &&& 31) else (σ i_register (((xa * 16) + ((ushr xb 20) &&& 15))).toNatClampNeg))) : Int32) ((if (ushr xb 25) = 32 then 1 else 0) : Int32) σ ) mf_MO_sum wi_MO_sum wl_MO_sum (lt_MO ) (sh_MO ) rfl wm_MO_159 rfl ⟨by decide, by decide⟩ (Nat.le_of_ble_eq_true rfl) ⟨by decide, by decide⟩ dX8_perform_448 ?_
                    refine v_callV_CV (rest := []) X [.int xa, .int ((ushr xb 7) &&& 31), .int (f_MO_sum ((ushr xb 12) &&& 7) (σ i_register (((xa * 16) + ((ushr xb 15) &&& 15))).toNatClampNeg) ((if ((ushr xb 12) &&& 7) = 1 then ((σ i_register (((xa * 16) + ((ushr xb 20) &&& 15))).toNatClampNeg) &&& 31) else (if ((ushr xb 12) &&& 7) = 5 then ((σ i_register (((xa * 16) + ((ushr xb 20) &&& 15))).toNatClampNeg) &&& 31) else (σ i_register (((xa * 16) + ((ushr xb 20) &&& 15))).toNatClampNeg))) : Int32) ((if (ushr xb 25) = 32 then 1 else 0) : Int32))] (c_MO_put xa ((ushr xb 7) &&& 31) (f_MO_sum ((ushr xb 12) &&& 7) (σ i_register (((xa * 16) + ((ushr xb 15) &&& 15))).toNatClampNeg) ((if ((ushr xb 12) &&& 7) = 1 then ((σ i_register (((xa * 16) + ((ushr xb 20) &&& 15))).toNatClampNeg) &&& 31) else (if ((ushr xb 12) &&& 7) = 5 then ((σ i_register (((xa * 16) + ((ushr xb 20) &&& 15))).toNatClampNeg) &&& 31) else (σ i_register (((xa * 16) + ((ushr xb 20) &&& 15))).toNatClampNeg))) : Int32) ((if (ushr xb 25) = 32 then 1 else 0) : Int32)) σ (by assumption) (kd_51 hk h400)) mf_MO_put wi_MO_put wl_MO_put (lt_MO ) (sh_MO ) rfl wm_MO_143 rfl ⟨by decide, by decide⟩ (Nat.le_of_ble_eq_true rfl) ⟨by decide, by decide⟩ dX8_perform_451 ?_
                    generalize hg451 : (f_MO_put xa ((ushr xb 7) &&& 31) (f_MO_sum ((ushr xb 12) &&& 7) (σ i_register (((xa * 16) + ((ushr xb 15) &&& 15))).toNatClampNeg) ((if ((ushr xb 12) &&& 7) = 1 then ((σ i_register (((xa * 16) + ((ushr xb 20) &&& 15))).toNatClampNeg) &&& 31) else (if ((ushr xb 12) &&& 7) = 5 then ((σ i_register (((xa * 16) + ((ushr xb 20) &&& 15))).toNatClampNeg) &&& 31) else (σ i_register (((xa * 16) + ((ushr xb 20) &&& 15))).toNatClampNeg))) : Int32) ((if (ushr xb 25) = 32 then 1 else 0) : Int32)) σ) = g451
                    have hI451 : Im g451 := by rw [← hg451]; exact (I_MO_put xa ((ushr xb 7) &&& 31) (f_MO_sum ((ushr xb 12) &&& 7) (σ i_register (((xa * 16) + ((ushr xb 15) &&& 15))).toNatClampNeg) ((if ((ushr xb 12) &&& 7) = 1 then ((σ i_register (((xa * 16) + ((ushr xb 20) &&& 15))).toNatClampNeg) &&& 31) else (if ((ushr xb 12) &&& 7) = 5 then ((σ i_register (((xa * 16) + ((ushr xb 20) &&& 15))).toNatClampNeg) &&& 31) else (σ i_register (((xa * 16) + ((ushr xb 20) &&& 15))).toNatClampNeg))) : Int32) ((if (ushr xb 25) = 32 then 1 else 0) : Int32)) hI (by assumption) (kd_51 hk h400))
                    refine v_goto (tgt := 474) X dX8_perform_454 (by decide) ?_
                    refine v_iload X 0 dX8_perform_474 rfl ?_
                    refine v_if_ne X 487 dX8_perform_476 (by decide) (fun h476 => ?_) (fun h476 => ?_)
                    · exact absurd h476 (by decide)
                    ·
                      refine v_aload_n X 8 dX8_perform_479 rfl rfl ?_
                      refine v_getR (j := i_pc) (i := iMO) (k := 6) X (lt_MO ) (sh_MO ) rfl in_MO (by decide) wf_MO_28 rfl (fun _ => rfl) dX8_perform_480 ?_
                      refine v_iload_n X 9 dX8_perform_483 rfl rfl ?_
                      refine v_iload X 1 dX8_perform_484 rfl ?_
                      have hv486 : vp_in xa 4 := hq
                      refine v_iast (i := i_pc) (t0 := 0) X (lt_m_pc ) (sh_m_pc ) rfl hv486 dX8_perform_486 ?_
                      generalize hg486 : (up g451 i_pc (xa).toNatClampNeg ((σ i_pc (xa).toNatClampNeg) + 4)) = g486
                      have hI486 : Im g486 := by rw [← hg486]; exact (Im.upA hI451 (by decide))
                      refine v_iload X 0 dX8_perform_487 rfl ?_
                      have e9 : f_MO_perform xa xb σ = (0, g486) := by subst hg451; subst hg486; simp only [f_MO_perform, if_neg h81, if_neg h102, if_neg h126, if_neg h182, if_neg h212, if_neg h275, if_neg h300, if_neg h330, if_pos h400]
                      exact v_endI hend dX8_perform_489 (by rw [e9]) (by rw [e9])
                ·
                  refine v_aload_n X 8 dX8_perform_333 rfl rfl ?_
                  refine v_iload_n X 9 dX8_perform_334 rfl rfl ?_
                  refine v_iload X 5 dX8_perform_335 rfl ?_
                  refine v_aload_n X 8 dX8_perform_337 rfl rfl ?_
                  refine v_iload X 6 dX8_perform_338 rfl ?_
                  refine v_iload X 4 dX8_perform_340 rfl ?_
                  refine v_iload X 6 dX8_perform_342 rfl ?_
                  refine v_iconst (v := 1) X dX8_perform_344 (by decide) ?_
                  refine v_suff (pc2 := 368) (lv2 := [(10, .int 0), (9, .int ((σ i_pc (xa).toNatClampNeg) + 4)), (8, .int (σ i_pc (xa).toNatClampNeg)), (7, .int (σ i_register (((xa * 16) + ((ushr xb 20) &&& 15))).toNatClampNeg)), (6, .int (σ i_register (((xa * 16) + ((ushr xb 15) &&& 15))).toNatClampNeg)), (5, .int ((ushr xb 7) &&& 31)), (4, .int ((ushr xb 12) &&& 7)), (3, .int (xb &&& 127)), (0, .ref (rh iMO)), (1, .int xa), (2, .int xb)]) (st2 := [.int ((if ((ushr xb 12) &&& 7) = 1 then ((ushr xb 20) &&& 31) else (if ((ushr xb 12) &&& 7) = 5 then ((ushr xb 20) &&& 31) else (sshr xb 20))) : Int32), .int (σ i_register (((xa * 16) + ((ushr xb 15) &&& 15))).toNatClampNeg), .int ((ushr xb 12) &&& 7), .ref (rh iMO), .int ((ushr xb 7) &&& 31), .int xa, .ref (rh iMO)]) (σ2 := σ) ?_ (fun J345 => ?_)
                  rotate_left
                  ·
                    refine v_icmp_eq X 354 dX8_perform_345 (by decide) (fun h345 => ?_) (fun h345 => ?_)
                    ·
                      refine v_iload_n X 10 dX8_perform_354 rfl rfl ?_
                      refine v_bipush (v := 20) X dX8_perform_355 (by decide) ?_
                      refine v_iushr X dX8_perform_357 ?_
                      refine v_bipush (v := 31) X dX8_perform_358 (by decide) ?_
                      refine v_iand X dX8_perform_360 ?_
                      refine v_goto (tgt := 368) X dX8_perform_361 (by decide) ?_
                      have e9 : (((if ((ushr xb 12) &&& 7) = 1 then ((ushr xb 20) &&& 31) else (if ((ushr xb 12) &&& 7) = 5 then ((ushr xb 20) &&& 31) else (sshr xb 20))) : Int32) : Int32) = ((ushr xb 20) &&& 31) := by simp only [if_pos h345]
                      rw [e9] at J345
                      exact J345
                    ·
                      refine v_iload X 6 dX8_perform_348 rfl ?_
                      refine v_iconst (v := 5) X dX8_perform_350 (by decide) ?_
                      refine v_icmp_ne X 364 dX8_perform_351 (by decide) (fun h351 => ?_) (fun h351 => ?_)
                      ·
                        refine v_iload_n X 10 dX8_perform_364 rfl rfl ?_
                        refine v_bipush (v := 20) X dX8_perform_365 (by decide) ?_
                        refine v_ishr X dX8_perform_367 ?_
                        have e9 : (((if ((ushr xb 12) &&& 7) = 1 then ((ushr xb 20) &&& 31) else (if ((ushr xb 12) &&& 7) = 5 then ((ushr xb 20) &&& 31) else (sshr xb 20))) : Int32) : Int32) = (sshr xb 20) := by simp only [if_neg h345, if_neg h351]
                        rw [e9] at J345
                        exact J345
                      ·
                        refine v_iload_n X 10 dX8_perform_354 rfl rfl ?_
                        refine v_bipush (v := 20) X dX8_perform_355 (by decide) ?_
                        refine v_iushr X dX8_perform_357 ?_
                        refine v_bipush (v := 31) X dX8_perform_358 (by decide) ?_
                        refine v_iand X dX8_perform_360 ?_
                        refine v_goto (tgt := 368) X dX8_perform_361 (by decide) ?_
                        have e9 : (((if ((ushr xb 12) &&& 7) = 1 then ((ushr xb 20) &&& 31) else (if ((ushr xb 12) &&& 7) = 5 then ((ushr xb 20) &&& 31) else (sshr xb 20))) : Int32) : Int32) = ((ushr xb 20) &&& 31) := by simp only [if_neg h345, if_pos h351]
                        rw [e9] at J345
                        exact J345
                  refine v_iload X 6 dX8_perform_368 rfl ?_
                  refine v_iconst (v := 5) X dX8_perform_370 (by decide) ?_
                  refine v_suff (pc2 := 388) (lv2 := [(10, .int 0), (9, .int ((σ i_pc (xa).toNatClampNeg) + 4)), (8, .int (σ i_pc (xa).toNatClampNeg)), (7, .int (σ i_register (((xa * 16) + ((ushr xb 20) &&& 15))).toNatClampNeg)), (6, .int (σ i_register (((xa * 16) + ((ushr xb 15) &&& 15))).toNatClampNeg)), (5, .int ((ushr xb 7) &&& 31)), (4, .int ((ushr xb 12) &&& 7)), (3, .int (xb &&& 127)), (0, .ref (rh iMO)), (1, .int xa), (2, .int xb)]) (st2 := [.int ((if ((ushr xb 12) &&& 7) = 5 then (if (ushr xb 25) = 32 then 1 else 0) else 0) : Int32), .int ((if ((ushr xb 12) &&& 7) = 1 then ((ushr xb 20) &&& 31) else (if ((ushr xb 12) &&& 7) = 5 then ((ushr xb 20) &&& 31) else (sshr xb 20))) : Int32), .int (σ i_register (((xa * 16) + ((ushr xb 15) &&& 15))).toNatClampNeg), .int ((ushr xb 12) &&& 7), .ref (rh iMO), .int ((ushr xb 7) &&& 31), .int xa, .ref (rh iMO)]) (σ2 := σ) ?_ (fun J371 => ?_)
                  rotate_left
                  ·
                    refine v_icmp_ne X 387 dX8_perform_371 (by decide) (fun h371 => ?_) (fun h371 => ?_)
                    ·
                      refine v_iconst (v := 0) X dX8_perform_387 (by decide) ?_
                      have e9 : (((if ((ushr xb 12) &&& 7) = 5 then (if (ushr xb 25) = 32 then 1 else 0) else 0) : Int32) : Int32) = 0 := by simp only [if_neg h371]
                      rw [e9] at J371
                      exact J371
                    ·
                      refine v_iload_n X 10 dX8_perform_374 rfl rfl ?_
                      refine v_bipush (v := 25) X dX8_perform_375 (by decide) ?_
                      refine v_iushr X dX8_perform_377 ?_
                      refine v_bipush (v := 32) X dX8_perform_378 (by decide) ?_
                      refine v_icmp_ne X 387 dX8_perform_380 (by decide) (fun h380 => ?_) (fun h380 => ?_)
                      ·
                        refine v_iconst (v := 0) X dX8_perform_387 (by decide) ?_
                        have e9 : (((if ((ushr xb 12) &&& 7) = 5 then (if (ushr xb 25) = 32 then 1 else 0) else 0) : Int32) : Int32) = 0 := by simp only [if_pos h371, if_neg h380]
                        rw [e9] at J371
                        exact J371
                      ·
                        refine v_iconst (v := 1) X dX8_perform_383 (by decide) ?_
                        refine v_goto (tgt := 388) X dX8_perform_384 (by decide) ?_
                        have e9 : (((if ((ushr xb 12) &&& 7) = 5 then (if (ushr xb 25) = 32 then 1 else 0) else 0) : Int32) : Int32) = 1 := by simp only [if_pos h371, if_pos h380]
                        rw [e9] at J371
                        exact J371
                  refine v_callV_CI (rest := [.int ((ushr xb 7) &&& 31), .int xa, .ref (rh iMO)]) X [.int ((ushr xb 12) &&& 7), .int (σ i_register (((xa * 16) + ((ushr xb 15) &&& 15))).toNatClampNeg), .int ((if ((ushr xb 12) &&& 7) = 1 then ((ushr xb 20) &&& 31) else (if ((ushr xb 12) &&& 7) = 5 then ((ushr xb 20) &&& 31) else (sshr xb 20))) : Int32), .int ((if ((ushr xb 12) &&& 7) = 5 then (if (ushr xb 25) = 32 then 1 else 0) else 0) : Int32)] (c_MO_sum ((ushr xb 12) &&& 7) (σ i_register (((xa * 16) + ((ushr xb 15) &&& 15))).toNatClampNeg) ((if ((ushr xb 12) &&& 7) = 1 then ((ushr xb 20) &&& 31) else (if ((ushr xb 12) &&& 7) = 5 then ((ushr xb 20) &&& 31) else (sshr xb 20))) : Int32) ((if ((ushr xb 12) &&& 7) = 5 then (if (ushr xb 25) = 32 then 1 else 0) else 0) : Int32) σ ) mf_MO_sum wi_MO_sum wl_MO_sum (lt_MO ) (sh_MO ) rfl wm_MO_159 rfl ⟨by decide, by decide⟩ (Nat.le_of_ble_eq_true rfl) ⟨by decide, by decide⟩ dX8_perform_388 ?_
                  refine v_callV_CV (rest := []) X [.int xa, .int ((ushr xb 7) &&& 31), .int (f_MO_sum ((ushr xb 12) &&& 7) (σ i_register (((xa * 16) + ((ushr xb 15) &&& 15))).toNatClampNeg) ((if ((ushr xb 12) &&& 7) = 1 then ((ushr xb 20) &&& 31) else (if ((ushr xb 12) &&& 7) = 5 then ((ushr xb 20) &&& 31) else (sshr xb 20))) : Int32) ((if ((ushr xb 12) &&& 7) = 5 then (if (ushr xb 25) = 32 then 1 else 0) else 0) : Int32))] (c_MO_put xa ((ushr xb 7) &&& 31) (f_MO_sum ((ushr xb 12) &&& 7) (σ i_register (((xa * 16) + ((ushr xb 15) &&& 15))).toNatClampNeg) ((if ((ushr xb 12) &&& 7) = 1 then ((ushr xb 20) &&& 31) else (if ((ushr xb 12) &&& 7) = 5 then ((ushr xb 20) &&& 31) else (sshr xb 20))) : Int32) ((if ((ushr xb 12) &&& 7) = 5 then (if (ushr xb 25) = 32 then 1 else 0) else 0) : Int32)) σ (by assumption) (kd_19 hk h330)) mf_MO_put wi_MO_put wl_MO_put (lt_MO ) (sh_MO ) rfl wm_MO_143 rfl ⟨by decide, by decide⟩ (Nat.le_of_ble_eq_true rfl) ⟨by decide, by decide⟩ dX8_perform_391 ?_
                  generalize hg391 : (f_MO_put xa ((ushr xb 7) &&& 31) (f_MO_sum ((ushr xb 12) &&& 7) (σ i_register (((xa * 16) + ((ushr xb 15) &&& 15))).toNatClampNeg) ((if ((ushr xb 12) &&& 7) = 1 then ((ushr xb 20) &&& 31) else (if ((ushr xb 12) &&& 7) = 5 then ((ushr xb 20) &&& 31) else (sshr xb 20))) : Int32) ((if ((ushr xb 12) &&& 7) = 5 then (if (ushr xb 25) = 32 then 1 else 0) else 0) : Int32)) σ) = g391
                  have hI391 : Im g391 := by rw [← hg391]; exact (I_MO_put xa ((ushr xb 7) &&& 31) (f_MO_sum ((ushr xb 12) &&& 7) (σ i_register (((xa * 16) + ((ushr xb 15) &&& 15))).toNatClampNeg) ((if ((ushr xb 12) &&& 7) = 1 then ((ushr xb 20) &&& 31) else (if ((ushr xb 12) &&& 7) = 5 then ((ushr xb 20) &&& 31) else (sshr xb 20))) : Int32) ((if ((ushr xb 12) &&& 7) = 5 then (if (ushr xb 25) = 32 then 1 else 0) else 0) : Int32)) hI (by assumption) (kd_19 hk h330))
                  refine v_goto (tgt := 474) X dX8_perform_394 (by decide) ?_
                  refine v_iload X 0 dX8_perform_474 rfl ?_
                  refine v_if_ne X 487 dX8_perform_476 (by decide) (fun h476 => ?_) (fun h476 => ?_)
                  · exact absurd h476 (by decide)
                  ·
                    refine v_aload_n X 8 dX8_perform_479 rfl rfl ?_
                    refine v_getR (j := i_pc) (i := iMO) (k := 6) X (lt_MO ) (sh_MO ) rfl in_MO (by decide) wf_MO_28 rfl (fun _ => rfl) dX8_perform_480 ?_
                    refine v_iload_n X 9 dX8_perform_483 rfl rfl ?_
                    refine v_iload X 1 dX8_perform_484 rfl ?_
                    have hv486 : vp_in xa 4 := hq
                    refine v_iast (i := i_pc) (t0 := 0) X (lt_m_pc ) (sh_m_pc ) rfl hv486 dX8_perform_486 ?_
                    generalize hg486 : (up g391 i_pc (xa).toNatClampNeg ((σ i_pc (xa).toNatClampNeg) + 4)) = g486
                    have hI486 : Im g486 := by rw [← hg486]; exact (Im.upA hI391 (by decide))
                    refine v_iload X 0 dX8_perform_487 rfl ?_
                    have e9 : f_MO_perform xa xb σ = (0, g486) := by subst hg391; subst hg486; simp only [f_MO_perform, if_neg h81, if_neg h102, if_neg h126, if_neg h182, if_neg h212, if_neg h275, if_neg h300, if_pos h330]
                    exact v_endI hend dX8_perform_489 (by rw [e9]) (by rw [e9])
              ·
                refine v_aload_n X 8 dX8_perform_303 rfl rfl ?_
                refine v_iload_n X 9 dX8_perform_304 rfl rfl ?_
                refine v_iload X 4 dX8_perform_305 rfl ?_
                refine v_iload_n X 10 dX8_perform_307 rfl rfl ?_
                refine v_bipush (v := 25) X dX8_perform_308 (by decide) ?_
                refine v_ishr X dX8_perform_310 ?_
                refine v_iconst (v := 5) X dX8_perform_311 (by decide) ?_
                refine v_ishl X dX8_perform_312 ?_
                refine v_iload X 5 dX8_perform_313 rfl ?_
                refine v_ior X dX8_perform_315 ?_
                refine v_iadd X dX8_perform_316 ?_
                refine v_iload X 3 dX8_perform_317 rfl ?_
                refine v_callV_CI (rest := []) X [.int xa, .int ((σ i_register (((xa * 16) + ((ushr xb 15) &&& 15))).toNatClampNeg) + ((shl (sshr xb 25) 5) ||| ((ushr xb 7) &&& 31))), .int (σ i_register (((xa * 16) + ((ushr xb 20) &&& 15))).toNatClampNeg)] (c_MO_stores xa ((σ i_register (((xa * 16) + ((ushr xb 15) &&& 15))).toNatClampNeg) + ((shl (sshr xb 25) 5) ||| ((ushr xb 7) &&& 31))) (σ i_register (((xa * 16) + ((ushr xb 20) &&& 15))).toNatClampNeg) σ hI (by assumption)) mf_MO_stores wi_MO_stores wl_MO_stores (lt_MO ) (sh_MO ) rfl wm_MO_156 rfl ⟨by decide, by decide⟩ (Nat.le_of_ble_eq_true rfl) ⟨by decide, by decide⟩ dX8_perform_319 ?_
                generalize hg319 : (f_MO_stores xa ((σ i_register (((xa * 16) + ((ushr xb 15) &&& 15))).toNatClampNeg) + ((shl (sshr xb 25) 5) ||| ((ushr xb 7) &&& 31))) (σ i_register (((xa * 16) + ((ushr xb 20) &&& 15))).toNatClampNeg) σ) = g319
                have hI319 : Im g319.2 := by rw [← hg319]; exact (I_MO_stores xa ((σ i_register (((xa * 16) + ((ushr xb 15) &&& 15))).toNatClampNeg) + ((shl (sshr xb 25) 5) ||| ((ushr xb 7) &&& 31))) (σ i_register (((xa * 16) + ((ushr xb 20) &&& 15))).toNatClampNeg) hI (by assumption))
                refine v_istore (lv' := [(10, .int g319.1), (9, .int ((σ i_pc (xa).toNatClampNeg) + 4)), (8, .int (σ i_pc (xa).toNatClampNeg)), (7, .int (σ i_register (((xa * 16) + ((ushr xb 20) &&& 15))).toNatClampNeg)), (6, .int (σ i_register (((xa * 16) + ((ushr xb 15) &&& 15))).toNatClampNeg)), (5, .int ((ushr xb 7) &&& 31)), (4, .int ((ushr xb 12) &&& 7)), (3, .int (xb &&& 127)), (0, .ref (rh iMO)), (1, .int xa), (2, .int xb)]) X dX8_perform_322 (by decide) rfl ?_
                refine v_goto (tgt := 474) X dX8_perform_324 (by decide) ?_
                refine v_iload X 0 dX8_perform_474 rfl ?_
                refine v_if_ne X 487 dX8_perform_476 (by decide) (fun h476 => ?_) (fun h476 => ?_)
                ·
                  refine v_iload X 0 dX8_perform_487 rfl ?_
                  have e9 : f_MO_perform xa xb σ = (g319.1, g319.2) := by subst hg319; simp only [f_MO_perform, if_neg h81, if_neg h102, if_neg h126, if_neg h182, if_neg h212, if_neg h275, if_pos h300, if_neg h476]
                  exact v_endI hend dX8_perform_489 (by rw [e9]) (by rw [e9])
                ·
                  refine v_aload_n X 8 dX8_perform_479 rfl rfl ?_
                  refine v_getR (j := i_pc) (i := iMO) (k := 6) X (lt_MO ) (sh_MO ) rfl in_MO (by decide) wf_MO_28 rfl (fun _ => rfl) dX8_perform_480 ?_
                  refine v_iload_n X 9 dX8_perform_483 rfl rfl ?_
                  refine v_iload X 1 dX8_perform_484 rfl ?_
                  have hv486 : vp_in xa 4 := hq
                  refine v_iast (i := i_pc) (t0 := 0) X (lt_m_pc ) (sh_m_pc ) rfl hv486 dX8_perform_486 ?_
                  generalize hg486 : (up g319.2 i_pc (xa).toNatClampNeg ((σ i_pc (xa).toNatClampNeg) + 4)) = g486
                  have hI486 : Im g486 := by rw [← hg486]; exact (Im.upA hI319 (by decide))
                  refine v_iload X 0 dX8_perform_487 rfl ?_
                  have e9 : f_MO_perform xa xb σ = (g319.1, g486) := by subst hg319; subst hg486; simp only [f_MO_perform, if_neg h81, if_neg h102, if_neg h126, if_neg h182, if_neg h212, if_neg h275, if_pos h300, if_pos h476]
                  exact v_endI hend dX8_perform_489 (by rw [e9]) (by rw [e9])
            ·
              refine v_aload_n X 8 dX8_perform_278 rfl rfl ?_
              refine v_iload_n X 9 dX8_perform_279 rfl rfl ?_
              refine v_iload X 4 dX8_perform_280 rfl ?_
              refine v_iload_n X 10 dX8_perform_282 rfl rfl ?_
              refine v_bipush (v := 20) X dX8_perform_283 (by decide) ?_
              refine v_ishr X dX8_perform_285 ?_
              refine v_iadd X dX8_perform_286 ?_
              refine v_iload X 5 dX8_perform_287 rfl ?_
              refine v_callV_CI (rest := []) X [.int xa, .int ((σ i_register (((xa * 16) + ((ushr xb 15) &&& 15))).toNatClampNeg) + (sshr xb 20)), .int ((ushr xb 7) &&& 31)] (c_MO_loads xa ((σ i_register (((xa * 16) + ((ushr xb 15) &&& 15))).toNatClampNeg) + (sshr xb 20)) ((ushr xb 7) &&& 31) σ hI (by assumption) (kd_3 hk h275)) mf_MO_loads wi_MO_loads wl_MO_loads (lt_MO ) (sh_MO ) rfl wm_MO_152 rfl ⟨by decide, by decide⟩ (Nat.le_of_ble_eq_true rfl) ⟨by decide, by decide⟩ dX8_perform_289 ?_
              generalize hg289 : (f_MO_loads xa ((σ i_register (((xa * 16) + ((ushr xb 15) &&& 15))).toNatClampNeg) + (sshr xb 20)) ((ushr xb 7) &&& 31) σ) = g289
              have hI289 : Im g289.2 := by rw [← hg289]; exact (I_MO_loads xa ((σ i_register (((xa * 16) + ((ushr xb 15) &&& 15))).toNatClampNeg) + (sshr xb 20)) ((ushr xb 7) &&& 31) hI (by assumption) (kd_3 hk h275))
              refine v_istore (lv' := [(10, .int g289.1), (9, .int ((σ i_pc (xa).toNatClampNeg) + 4)), (8, .int (σ i_pc (xa).toNatClampNeg)), (7, .int (σ i_register (((xa * 16) + ((ushr xb 20) &&& 15))).toNatClampNeg)), (6, .int (σ i_register (((xa * 16) + ((ushr xb 15) &&& 15))).toNatClampNeg)), (5, .int ((ushr xb 7) &&& 31)), (4, .int ((ushr xb 12) &&& 7)), (3, .int (xb &&& 127)), (0, .ref (rh iMO)), (1, .int xa), (2, .int xb)]) X dX8_perform_292 (by decide) rfl ?_
              refine v_goto (tgt := 474) X dX8_perform_294 (by decide) ?_
              refine v_iload X 0 dX8_perform_474 rfl ?_
              refine v_if_ne X 487 dX8_perform_476 (by decide) (fun h476 => ?_) (fun h476 => ?_)
              ·
                refine v_iload X 0 dX8_perform_487 rfl ?_
                have e9 : f_MO_perform xa xb σ = (g289.1, g289.2) := by subst hg289; simp only [f_MO_perform, if_neg h81, if_neg h102, if_neg h126, if_neg h182, if_neg h212, if_pos h275, if_neg h476]
                exact v_endI hend dX8_perform_489 (by rw [e9]) (by rw [e9])
              ·
                refine v_aload_n X 8 dX8_perform_479 rfl rfl ?_
                refine v_getR (j := i_pc) (i := iMO) (k := 6) X (lt_MO ) (sh_MO ) rfl in_MO (by decide) wf_MO_28 rfl (fun _ => rfl) dX8_perform_480 ?_
                refine v_iload_n X 9 dX8_perform_483 rfl rfl ?_
                refine v_iload X 1 dX8_perform_484 rfl ?_
                have hv486 : vp_in xa 4 := hq
                refine v_iast (i := i_pc) (t0 := 0) X (lt_m_pc ) (sh_m_pc ) rfl hv486 dX8_perform_486 ?_
                generalize hg486 : (up g289.2 i_pc (xa).toNatClampNeg ((σ i_pc (xa).toNatClampNeg) + 4)) = g486
                have hI486 : Im g486 := by rw [← hg486]; exact (Im.upA hI289 (by decide))
                refine v_iload X 0 dX8_perform_487 rfl ?_
                have e9 : f_MO_perform xa xb σ = (g289.1, g486) := by subst hg289; subst hg486; simp only [f_MO_perform, if_neg h81, if_neg h102, if_neg h126, if_neg h182, if_neg h212, if_pos h275, if_pos h476]
                exact v_endI hend dX8_perform_489 (by rw [e9]) (by rw [e9])
          ·
            refine v_aload_n X 8 dX8_perform_215 rfl rfl ?_
            refine v_iload X 6 dX8_perform_216 rfl ?_
            refine v_iload X 4 dX8_perform_218 rfl ?_
            refine v_iload X 3 dX8_perform_220 rfl ?_
            refine v_callV_CI (rest := []) X [.int ((ushr xb 12) &&& 7), .int (σ i_register (((xa * 16) + ((ushr xb 15) &&& 15))).toNatClampNeg), .int (σ i_register (((xa * 16) + ((ushr xb 20) &&& 15))).toNatClampNeg)] (c_MO_goes ((ushr xb 12) &&& 7) (σ i_register (((xa * 16) + ((ushr xb 15) &&& 15))).toNatClampNeg) (σ i_register (((xa * 16) + ((ushr xb 20) &&& 15))).toNatClampNeg) σ ) mf_MO_goes wi_MO_goes wl_MO_goes (lt_MO ) (sh_MO ) rfl wm_MO_148 rfl ⟨by decide, by decide⟩ (Nat.le_of_ble_eq_true rfl) ⟨by decide, by decide⟩ dX8_perform_222 ?_
            refine v_if_eq X 474 dX8_perform_225 (by decide) (fun h225 => ?_) (fun h225 => ?_)
            ·
              refine v_iload X 0 dX8_perform_474 rfl ?_
              refine v_if_ne X 487 dX8_perform_476 (by decide) (fun h476 => ?_) (fun h476 => ?_)
              · exact absurd h476 (by decide)
              ·
                refine v_aload_n X 8 dX8_perform_479 rfl rfl ?_
                refine v_getR (j := i_pc) (i := iMO) (k := 6) X (lt_MO ) (sh_MO ) rfl in_MO (by decide) wf_MO_28 rfl (fun _ => rfl) dX8_perform_480 ?_
                refine v_iload_n X 9 dX8_perform_483 rfl rfl ?_
                refine v_iload X 1 dX8_perform_484 rfl ?_
                have hv486 : vp_in xa 4 := hq
                refine v_iast (i := i_pc) (t0 := 0) X (lt_m_pc ) (sh_m_pc ) rfl hv486 dX8_perform_486 ?_
                generalize hg486 : (up σ i_pc (xa).toNatClampNeg ((σ i_pc (xa).toNatClampNeg) + 4)) = g486
                have hI486 : Im g486 := by rw [← hg486]; exact (Im.upA hI (by decide))
                refine v_iload X 0 dX8_perform_487 rfl ?_
                have e9 : f_MO_perform xa xb σ = (0, g486) := by subst hg486; simp only [f_MO_perform, if_neg h81, if_neg h102, if_neg h126, if_neg h182, if_pos h212, if_pos h225]
                exact v_endI hend dX8_perform_489 (by rw [e9]) (by rw [e9])
            ·
              refine v_iload X 2 dX8_perform_228 rfl ?_
              refine v_iload_n X 10 dX8_perform_230 rfl rfl ?_
              refine v_bipush (v := 31) X dX8_perform_231 (by decide) ?_
              refine v_ishr X dX8_perform_233 ?_
              refine v_bipush (v := 12) X dX8_perform_234 (by decide) ?_
              refine v_ishl X dX8_perform_236 ?_
              refine v_iload_n X 10 dX8_perform_237 rfl rfl ?_
              refine v_bipush (v := 7) X dX8_perform_238 (by decide) ?_
              refine v_iushr X dX8_perform_240 ?_
              refine v_iconst (v := 1) X dX8_perform_241 (by decide) ?_
              refine v_iand X dX8_perform_242 ?_
              refine v_bipush (v := 11) X dX8_perform_243 (by decide) ?_
              refine v_ishl X dX8_perform_245 ?_
              refine v_ior X dX8_perform_246 ?_
              refine v_iload_n X 10 dX8_perform_247 rfl rfl ?_
              refine v_bipush (v := 25) X dX8_perform_248 (by decide) ?_
              refine v_iushr X dX8_perform_250 ?_
              refine v_bipush (v := 63) X dX8_perform_251 (by decide) ?_
              refine v_iand X dX8_perform_253 ?_
              refine v_iconst (v := 5) X dX8_perform_254 (by decide) ?_
              refine v_ishl X dX8_perform_255 ?_
              refine v_ior X dX8_perform_256 ?_
              refine v_iload_n X 10 dX8_perform_257 rfl rfl ?_
              refine v_bipush (v := 8) X dX8_perform_258 (by decide) ?_
              refine v_iushr X dX8_perform_260 ?_
              refine v_bipush (v := 15) X dX8_perform_261 (by decide) ?_
              refine v_iand X dX8_perform_263 ?_
              refine v_iconst (v := 1) X dX8_perform_264 (by decide) ?_
              refine v_ishl X dX8_perform_265 ?_
              refine v_ior X dX8_perform_266 ?_
              refine v_iadd X dX8_perform_267 ?_
              refine v_istore (lv' := [(9, .int ((σ i_pc (xa).toNatClampNeg) + ((((shl (sshr xb 31) 12) ||| (shl ((ushr xb 7) &&& 1) 11)) ||| (shl ((ushr xb 25) &&& 63) 5)) ||| (shl ((ushr xb 8) &&& 15) 1)))), (10, .int 0), (8, .int (σ i_pc (xa).toNatClampNeg)), (7, .int (σ i_register (((xa * 16) + ((ushr xb 20) &&& 15))).toNatClampNeg)), (6, .int (σ i_register (((xa * 16) + ((ushr xb 15) &&& 15))).toNatClampNeg)), (5, .int ((ushr xb 7) &&& 31)), (4, .int ((ushr xb 12) &&& 7)), (3, .int (xb &&& 127)), (0, .ref (rh iMO)), (1, .int xa), (2, .int xb)]) X dX8_perform_268 (by decide) rfl ?_
              refine v_goto (tgt := 474) X dX8_perform_270 (by decide) ?_
              refine v_iload X 1 dX8_perform_474 rfl ?_
              refine v_if_ne X 487 dX8_perform_476 (by decide) (fun h476 => ?_) (fun h476 => ?_)
              · exact absurd h476 (by decide)
              ·
                refine v_aload_n X 8 dX8_perform_479 rfl rfl ?_
                refine v_getR (j := i_pc) (i := iMO) (k := 6) X (lt_MO ) (sh_MO ) rfl in_MO (by decide) wf_MO_28 rfl (fun _ => rfl) dX8_perform_480 ?_
                refine v_iload_n X 9 dX8_perform_483 rfl rfl ?_
                refine v_iload X 0 dX8_perform_484 rfl ?_
                have hv486 : vp_in xa 4 := hq
                refine v_iast (i := i_pc) (t0 := 0) X (lt_m_pc ) (sh_m_pc ) rfl hv486 dX8_perform_486 ?_
                generalize hg486 : (up σ i_pc (xa).toNatClampNeg ((σ i_pc (xa).toNatClampNeg) + ((((shl (sshr xb 31) 12) ||| (shl ((ushr xb 7) &&& 1) 11)) ||| (shl ((ushr xb 25) &&& 63) 5)) ||| (shl ((ushr xb 8) &&& 15) 1)))) = g486
                have hI486 : Im g486 := by rw [← hg486]; exact (Im.upA hI (by decide))
                refine v_iload X 1 dX8_perform_487 rfl ?_
                have e9 : f_MO_perform xa xb σ = (0, g486) := by subst hg486; simp only [f_MO_perform, if_neg h81, if_neg h102, if_neg h126, if_neg h182, if_pos h212, if_neg h225]
                exact v_endI hend dX8_perform_489 (by rw [e9]) (by rw [e9])
        ·
          refine v_aload_n X 8 dX8_perform_185 rfl rfl ?_
          refine v_iload_n X 9 dX8_perform_186 rfl rfl ?_
          refine v_iload X 5 dX8_perform_187 rfl ?_
          refine v_iload X 1 dX8_perform_189 rfl ?_
          refine v_callV_CV (rest := []) X [.int xa, .int ((ushr xb 7) &&& 31), .int ((σ i_pc (xa).toNatClampNeg) + 4)] (c_MO_put xa ((ushr xb 7) &&& 31) ((σ i_pc (xa).toNatClampNeg) + 4) σ (by assumption) (kd_103 hk h182)) mf_MO_put wi_MO_put wl_MO_put (lt_MO ) (sh_MO ) rfl wm_MO_143 rfl ⟨by decide, by decide⟩ (Nat.le_of_ble_eq_true rfl) ⟨by decide, by decide⟩ dX8_perform_191 ?_
          generalize hg191 : (f_MO_put xa ((ushr xb 7) &&& 31) ((σ i_pc (xa).toNatClampNeg) + 4) σ) = g191
          have hI191 : Im g191 := by rw [← hg191]; exact (I_MO_put xa ((ushr xb 7) &&& 31) ((σ i_pc (xa).toNatClampNeg) + 4) hI (by assumption) (kd_103 hk h182))
          refine v_iload X 4 dX8_perform_194 rfl ?_
          refine v_iload_n X 10 dX8_perform_196 rfl rfl ?_
          refine v_bipush (v := 20) X dX8_perform_197 (by decide) ?_
          refine v_ishr X dX8_perform_199 ?_
          refine v_iadd X dX8_perform_200 ?_
          refine v_bipush (v := (-2)) X dX8_perform_201 (by decide) ?_
          refine v_iand X dX8_perform_203 ?_
          refine v_istore (lv' := [(9, .int (((σ i_register (((xa * 16) + ((ushr xb 15) &&& 15))).toNatClampNeg) + (sshr xb 20)) &&& (-2))), (10, .int 0), (8, .int (σ i_pc (xa).toNatClampNeg)), (7, .int (σ i_register (((xa * 16) + ((ushr xb 20) &&& 15))).toNatClampNeg)), (6, .int (σ i_register (((xa * 16) + ((ushr xb 15) &&& 15))).toNatClampNeg)), (5, .int ((ushr xb 7) &&& 31)), (4, .int ((ushr xb 12) &&& 7)), (3, .int (xb &&& 127)), (0, .ref (rh iMO)), (1, .int xa), (2, .int xb)]) X dX8_perform_204 (by decide) rfl ?_
          refine v_goto (tgt := 474) X dX8_perform_206 (by decide) ?_
          refine v_iload X 1 dX8_perform_474 rfl ?_
          refine v_if_ne X 487 dX8_perform_476 (by decide) (fun h476 => ?_) (fun h476 => ?_)
          · exact absurd h476 (by decide)
          ·
            refine v_aload_n X 8 dX8_perform_479 rfl rfl ?_
            refine v_getR (j := i_pc) (i := iMO) (k := 6) X (lt_MO ) (sh_MO ) rfl in_MO (by decide) wf_MO_28 rfl (fun _ => rfl) dX8_perform_480 ?_
            refine v_iload_n X 9 dX8_perform_483 rfl rfl ?_
            refine v_iload X 0 dX8_perform_484 rfl ?_
            have hv486 : vp_in xa 4 := hq
            refine v_iast (i := i_pc) (t0 := 0) X (lt_m_pc ) (sh_m_pc ) rfl hv486 dX8_perform_486 ?_
            generalize hg486 : (up g191 i_pc (xa).toNatClampNeg (((σ i_register (((xa * 16) + ((ushr xb 15) &&& 15))).toNatClampNeg) + (sshr xb 20)) &&& (-2))) = g486
            have hI486 : Im g486 := by rw [← hg486]; exact (Im.upA hI191 (by decide))
            refine v_iload X 1 dX8_perform_487 rfl ?_
            have e9 : f_MO_perform xa xb σ = (0, g486) := by subst hg191; subst hg486; simp only [f_MO_perform, if_neg h81, if_neg h102, if_neg h126, if_pos h182]
            exact v_endI hend dX8_perform_489 (by rw [e9]) (by rw [e9])
      ·
        refine v_aload_n X 8 dX8_perform_129 rfl rfl ?_
        refine v_iload_n X 9 dX8_perform_130 rfl rfl ?_
        refine v_iload X 5 dX8_perform_131 rfl ?_
        refine v_iload X 1 dX8_perform_133 rfl ?_
        refine v_callV_CV (rest := []) X [.int xa, .int ((ushr xb 7) &&& 31), .int ((σ i_pc (xa).toNatClampNeg) + 4)] (c_MO_put xa ((ushr xb 7) &&& 31) ((σ i_pc (xa).toNatClampNeg) + 4) σ (by assumption) (kd_111 hk h126)) mf_MO_put wi_MO_put wl_MO_put (lt_MO ) (sh_MO ) rfl wm_MO_143 rfl ⟨by decide, by decide⟩ (Nat.le_of_ble_eq_true rfl) ⟨by decide, by decide⟩ dX8_perform_135 ?_
        generalize hg135 : (f_MO_put xa ((ushr xb 7) &&& 31) ((σ i_pc (xa).toNatClampNeg) + 4) σ) = g135
        have hI135 : Im g135 := by rw [← hg135]; exact (I_MO_put xa ((ushr xb 7) &&& 31) ((σ i_pc (xa).toNatClampNeg) + 4) hI (by assumption) (kd_111 hk h126))
        refine v_iload X 2 dX8_perform_138 rfl ?_
        refine v_iload_n X 10 dX8_perform_140 rfl rfl ?_
        refine v_bipush (v := 31) X dX8_perform_141 (by decide) ?_
        refine v_ishr X dX8_perform_143 ?_
        refine v_bipush (v := 20) X dX8_perform_144 (by decide) ?_
        refine v_ishl X dX8_perform_146 ?_
        refine v_iload_n X 10 dX8_perform_147 rfl rfl ?_
        refine v_ldc (v := 1044480) X wk_MO_147 dX8_perform_148 ?_
        refine v_iand X dX8_perform_150 ?_
        refine v_ior X dX8_perform_151 ?_
        refine v_iload_n X 10 dX8_perform_152 rfl rfl ?_
        refine v_bipush (v := 20) X dX8_perform_153 (by decide) ?_
        refine v_iushr X dX8_perform_155 ?_
        refine v_iconst (v := 1) X dX8_perform_156 (by decide) ?_
        refine v_iand X dX8_perform_157 ?_
        refine v_bipush (v := 11) X dX8_perform_158 (by decide) ?_
        refine v_ishl X dX8_perform_160 ?_
        refine v_ior X dX8_perform_161 ?_
        refine v_iload_n X 10 dX8_perform_162 rfl rfl ?_
        refine v_bipush (v := 21) X dX8_perform_163 (by decide) ?_
        refine v_iushr X dX8_perform_165 ?_
        refine v_sipush (v := 1023) X dX8_perform_166 (by decide) ?_
        refine v_iand X dX8_perform_169 ?_
        refine v_iconst (v := 1) X dX8_perform_170 (by decide) ?_
        refine v_ishl X dX8_perform_171 ?_
        refine v_ior X dX8_perform_172 ?_
        refine v_iadd X dX8_perform_173 ?_
        refine v_istore (lv' := [(9, .int ((σ i_pc (xa).toNatClampNeg) + ((((shl (sshr xb 31) 20) ||| (xb &&& 1044480)) ||| (shl ((ushr xb 20) &&& 1) 11)) ||| (shl ((ushr xb 21) &&& 1023) 1)))), (10, .int 0), (8, .int (σ i_pc (xa).toNatClampNeg)), (7, .int (σ i_register (((xa * 16) + ((ushr xb 20) &&& 15))).toNatClampNeg)), (6, .int (σ i_register (((xa * 16) + ((ushr xb 15) &&& 15))).toNatClampNeg)), (5, .int ((ushr xb 7) &&& 31)), (4, .int ((ushr xb 12) &&& 7)), (3, .int (xb &&& 127)), (0, .ref (rh iMO)), (1, .int xa), (2, .int xb)]) X dX8_perform_174 (by decide) rfl ?_
        refine v_goto (tgt := 474) X dX8_perform_176 (by decide) ?_
        refine v_iload X 1 dX8_perform_474 rfl ?_
        refine v_if_ne X 487 dX8_perform_476 (by decide) (fun h476 => ?_) (fun h476 => ?_)
        · exact absurd h476 (by decide)
        ·
          refine v_aload_n X 8 dX8_perform_479 rfl rfl ?_
          refine v_getR (j := i_pc) (i := iMO) (k := 6) X (lt_MO ) (sh_MO ) rfl in_MO (by decide) wf_MO_28 rfl (fun _ => rfl) dX8_perform_480 ?_
          refine v_iload_n X 9 dX8_perform_483 rfl rfl ?_
          refine v_iload X 0 dX8_perform_484 rfl ?_
          have hv486 : vp_in xa 4 := hq
          refine v_iast (i := i_pc) (t0 := 0) X (lt_m_pc ) (sh_m_pc ) rfl hv486 dX8_perform_486 ?_
          generalize hg486 : (up g135 i_pc (xa).toNatClampNeg ((σ i_pc (xa).toNatClampNeg) + ((((shl (sshr xb 31) 20) ||| (xb &&& 1044480)) ||| (shl ((ushr xb 20) &&& 1) 11)) ||| (shl ((ushr xb 21) &&& 1023) 1)))) = g486
          have hI486 : Im g486 := by rw [← hg486]; exact (Im.upA hI135 (by decide))
          refine v_iload X 1 dX8_perform_487 rfl ?_
          have e9 : f_MO_perform xa xb σ = (0, g486) := by subst hg135; subst hg486; simp only [f_MO_perform, if_neg h81, if_neg h102, if_pos h126]
          exact v_endI hend dX8_perform_489 (by rw [e9]) (by rw [e9])
    ·
      refine v_aload_n X 8 dX8_perform_105 rfl rfl ?_
      refine v_iload_n X 9 dX8_perform_106 rfl rfl ?_
      refine v_iload X 5 dX8_perform_107 rfl ?_
      refine v_iload X 2 dX8_perform_109 rfl ?_
      refine v_iload_n X 10 dX8_perform_111 rfl rfl ?_
      refine v_sipush (v := (-4096)) X dX8_perform_112 (by decide) ?_
      refine v_iand X dX8_perform_115 ?_
      refine v_iadd X dX8_perform_116 ?_
      refine v_callV_CV (rest := []) X [.int xa, .int ((ushr xb 7) &&& 31), .int ((σ i_pc (xa).toNatClampNeg) + (xb &&& (-4096)))] (c_MO_put xa ((ushr xb 7) &&& 31) ((σ i_pc (xa).toNatClampNeg) + (xb &&& (-4096))) σ (by assumption) (kd_23 hk h102)) mf_MO_put wi_MO_put wl_MO_put (lt_MO ) (sh_MO ) rfl wm_MO_143 rfl ⟨by decide, by decide⟩ (Nat.le_of_ble_eq_true rfl) ⟨by decide, by decide⟩ dX8_perform_117 ?_
      generalize hg117 : (f_MO_put xa ((ushr xb 7) &&& 31) ((σ i_pc (xa).toNatClampNeg) + (xb &&& (-4096))) σ) = g117
      have hI117 : Im g117 := by rw [← hg117]; exact (I_MO_put xa ((ushr xb 7) &&& 31) ((σ i_pc (xa).toNatClampNeg) + (xb &&& (-4096))) hI (by assumption) (kd_23 hk h102))
      refine v_goto (tgt := 474) X dX8_perform_120 (by decide) ?_
      refine v_iload X 0 dX8_perform_474 rfl ?_
      refine v_if_ne X 487 dX8_perform_476 (by decide) (fun h476 => ?_) (fun h476 => ?_)
      · exact absurd h476 (by decide)
      ·
        refine v_aload_n X 8 dX8_perform_479 rfl rfl ?_
        refine v_getR (j := i_pc) (i := iMO) (k := 6) X (lt_MO ) (sh_MO ) rfl in_MO (by decide) wf_MO_28 rfl (fun _ => rfl) dX8_perform_480 ?_
        refine v_iload_n X 9 dX8_perform_483 rfl rfl ?_
        refine v_iload X 1 dX8_perform_484 rfl ?_
        have hv486 : vp_in xa 4 := hq
        refine v_iast (i := i_pc) (t0 := 0) X (lt_m_pc ) (sh_m_pc ) rfl hv486 dX8_perform_486 ?_
        generalize hg486 : (up g117 i_pc (xa).toNatClampNeg ((σ i_pc (xa).toNatClampNeg) + 4)) = g486
        have hI486 : Im g486 := by rw [← hg486]; exact (Im.upA hI117 (by decide))
        refine v_iload X 0 dX8_perform_487 rfl ?_
        have e9 : f_MO_perform xa xb σ = (0, g486) := by subst hg117; subst hg486; simp only [f_MO_perform, if_neg h81, if_pos h102]
        exact v_endI hend dX8_perform_489 (by rw [e9]) (by rw [e9])
  ·
    refine v_aload_n X 8 dX8_perform_84 rfl rfl ?_
    refine v_iload_n X 9 dX8_perform_85 rfl rfl ?_
    refine v_iload X 5 dX8_perform_86 rfl ?_
    refine v_iload_n X 10 dX8_perform_88 rfl rfl ?_
    refine v_sipush (v := (-4096)) X dX8_perform_89 (by decide) ?_
    refine v_iand X dX8_perform_92 ?_
    refine v_callV_CV (rest := []) X [.int xa, .int ((ushr xb 7) &&& 31), .int (xb &&& (-4096))] (c_MO_put xa ((ushr xb 7) &&& 31) (xb &&& (-4096)) σ (by assumption) (kd_55 hk h81)) mf_MO_put wi_MO_put wl_MO_put (lt_MO ) (sh_MO ) rfl wm_MO_143 rfl ⟨by decide, by decide⟩ (Nat.le_of_ble_eq_true rfl) ⟨by decide, by decide⟩ dX8_perform_93 ?_
    generalize hg93 : (f_MO_put xa ((ushr xb 7) &&& 31) (xb &&& (-4096)) σ) = g93
    have hI93 : Im g93 := by rw [← hg93]; exact (I_MO_put xa ((ushr xb 7) &&& 31) (xb &&& (-4096)) hI (by assumption) (kd_55 hk h81))
    refine v_goto (tgt := 474) X dX8_perform_96 (by decide) ?_
    refine v_iload X 0 dX8_perform_474 rfl ?_
    refine v_if_ne X 487 dX8_perform_476 (by decide) (fun h476 => ?_) (fun h476 => ?_)
    · exact absurd h476 (by decide)
    ·
      refine v_aload_n X 8 dX8_perform_479 rfl rfl ?_
      refine v_getR (j := i_pc) (i := iMO) (k := 6) X (lt_MO ) (sh_MO ) rfl in_MO (by decide) wf_MO_28 rfl (fun _ => rfl) dX8_perform_480 ?_
      refine v_iload_n X 9 dX8_perform_483 rfl rfl ?_
      refine v_iload X 1 dX8_perform_484 rfl ?_
      have hv486 : vp_in xa 4 := hq
      refine v_iast (i := i_pc) (t0 := 0) X (lt_m_pc ) (sh_m_pc ) rfl hv486 dX8_perform_486 ?_
      generalize hg486 : (up g93 i_pc (xa).toNatClampNeg ((σ i_pc (xa).toNatClampNeg) + 4)) = g486
      have hI486 : Im g486 := by rw [← hg486]; exact (Im.upA hI93 (by decide))
      refine v_iload X 0 dX8_perform_487 rfl ?_
      have e9 : f_MO_perform xa xb σ = (0, g486) := by subst hg93; subst hg486; simp only [f_MO_perform, if_pos h81]
      exact v_endI hend dX8_perform_489 (by rw [e9]) (by rw [e9])
theorem I_MO_perform (xa : Int32) (xb : Int32) {σ : St} (hI : Im σ) (hq : vp_in xa 4) (hk : ¬ f_MO_known xb = 0) : Im (f_MO_perform xa xb σ).2 := by
  unfold f_MO_perform
  exact (im_ite2 (fun h81 => (Im.upA (I_MO_put xa ((ushr xb 7) &&& 31) (xb &&& (-4096)) hI (by assumption) (kd_55 hk h81)) (by decide))) (fun h81 => (im_ite2 (fun h102 => (Im.upA (I_MO_put xa ((ushr xb 7) &&& 31) ((σ i_pc (xa).toNatClampNeg) + (xb &&& (-4096))) hI (by assumption) (kd_23 hk h102)) (by decide))) (fun h102 => (im_ite2 (fun h126 => (Im.upA (I_MO_put xa ((ushr xb 7) &&& 31) ((σ i_pc (xa).toNatClampNeg) + 4) hI (by assumption) (kd_111 hk h126)) (by decide))) (fun h126 => (im_ite2 (fun h182 => (Im.upA (I_MO_put xa ((ushr xb 7) &&& 31) ((σ i_pc (xa).toNatClampNeg) + 4) hI (by assumption) (kd_103 hk h182)) (by decide))) (fun h182 => (im_ite2 (fun h212 => (im_ite2 (fun h225 => (Im.upA hI (by decide))) (fun h225 => (Im.upA hI (by decide))))) (fun h212 => (im_ite2 (fun h275 => (im_ite2 (fun h476 => (Im.upA (I_MO_loads xa ((σ i_register (((xa * 16) + ((ushr xb 15) &&& 15))).toNatClampNeg) + (sshr xb 20)) ((ushr xb 7) &&& 31) hI (by assumption) (kd_3 hk h275)) (by decide))) (fun h476 => (I_MO_loads xa ((σ i_register (((xa * 16) + ((ushr xb 15) &&& 15))).toNatClampNeg) + (sshr xb 20)) ((ushr xb 7) &&& 31) hI (by assumption) (kd_3 hk h275))))) (fun h275 => (im_ite2 (fun h300 => (im_ite2 (fun h476 => (Im.upA (I_MO_stores xa ((σ i_register (((xa * 16) + ((ushr xb 15) &&& 15))).toNatClampNeg) + ((shl (sshr xb 25) 5) ||| ((ushr xb 7) &&& 31))) (σ i_register (((xa * 16) + ((ushr xb 20) &&& 15))).toNatClampNeg) hI (by assumption)) (by decide))) (fun h476 => (I_MO_stores xa ((σ i_register (((xa * 16) + ((ushr xb 15) &&& 15))).toNatClampNeg) + ((shl (sshr xb 25) 5) ||| ((ushr xb 7) &&& 31))) (σ i_register (((xa * 16) + ((ushr xb 20) &&& 15))).toNatClampNeg) hI (by assumption))))) (fun h300 => (im_ite2 (fun h330 => (Im.upA (I_MO_put xa ((ushr xb 7) &&& 31) (f_MO_sum ((ushr xb 12) &&& 7) (σ i_register (((xa * 16) + ((ushr xb 15) &&& 15))).toNatClampNeg) ((if ((ushr xb 12) &&& 7) = 1 then ((ushr xb 20) &&& 31) else (if ((ushr xb 12) &&& 7) = 5 then ((ushr xb 20) &&& 31) else (sshr xb 20))) : Int32) ((if ((ushr xb 12) &&& 7) = 5 then (if (ushr xb 25) = 32 then 1 else 0) else 0) : Int32)) hI (by assumption) (kd_19 hk h330)) (by decide))) (fun h330 => (im_ite2 (fun h400 => (Im.upA (I_MO_put xa ((ushr xb 7) &&& 31) (f_MO_sum ((ushr xb 12) &&& 7) (σ i_register (((xa * 16) + ((ushr xb 15) &&& 15))).toNatClampNeg) ((if ((ushr xb 12) &&& 7) = 1 then ((σ i_register (((xa * 16) + ((ushr xb 20) &&& 15))).toNatClampNeg) &&& 31) else (if ((ushr xb 12) &&& 7) = 5 then ((σ i_register (((xa * 16) + ((ushr xb 20) &&& 15))).toNatClampNeg) &&& 31) else (σ i_register (((xa * 16) + ((ushr xb 20) &&& 15))).toNatClampNeg))) : Int32) ((if (ushr xb 25) = 32 then 1 else 0) : Int32)) hI (by assumption) (kd_51 hk h400)) (by decide))) (fun h400 => (im_ite2 (fun h460 => (im_ite2 (fun h476 => (Im.upA (I_MO_calls xa hI (by assumption)) (by decide))) (fun h476 => (I_MO_calls xa hI (by assumption))))) (fun h460 => hI))))))))))))))))))))
end CLS
