theorem tw_of {L : List Cond} (h : L.all (fun w => (decide (w ∈ lw_tbl) && (goodWord w || isNest w)) || isHW w) = true) : ∀ w ∈ L, w ∈ gw ∨ w ∈ nw ∨ isHW w = true := by
  intro w hw
  have h1 := List.all_eq_true.mp h w hw
  simp only [Bool.or_eq_true, Bool.and_eq_true, decide_eq_true_eq] at h1
  rcases h1 with ⟨h2, h3 | h3⟩ | h3
  · exact Or.inl (gw_of h2 h3)
  · exact Or.inr (Or.inl (nw_of h2 h3))
  · exact Or.inr (Or.inr h3)
theorem tw_SM_1 : TW RX7 176 178 (exN 1) ["java/lang/RuntimeException", "java/lang/Exception"] := ⟨gw_of (by decide +kernel) rfl, gw_of (by decide +kernel) rfl, by decide +kernel, by decide +kernel, tw_of (by decide +kernel)⟩
theorem tw_SM_2 : TW RX7 179 181 (exN 2) ["java/lang/RuntimeException", "java/lang/Exception"] := ⟨gw_of (by decide +kernel) rfl, gw_of (by decide +kernel) rfl, by decide +kernel, by decide +kernel, tw_of (by decide +kernel)⟩
section CLS
variable {l : Launch} {D : va_G} {rh : Nat → Nat} {cA : Nat → ClassId}
def f_SM_refuseBadUnless (xa : Int32) : Int32 :=
  (if xa = 0 then 1 else 0)
set_option maxHeartbeats 4000000 in
set_option maxRecDepth 100000 in
theorem c_SM_refuseBadUnless (hlt : l.stackTraces = false) (xa : Int32) (σ : St) : CFV l D (tyL cA) rh (rcW rh cA) NW yX7_refuseBadUnless cX7_refuseBadUnless 1 6 1 6 [.int xa] σ (f_SM_refuseBadUnless xa, 0, σ) := by
  refine CFV.of rfl (Nat.le_of_ble_eq_true rfl) hlt ?_
  intro p9 e s m args below meth c A Q X hend hthr hnew
  refine v_lv (lv' := [(0, .int xa)]) [0] rfl ?_
  refine v_iload_n X 0 dX7_refuseBadUnless_0 rfl rfl ?_
  refine v_if_ne X 12 dX7_refuseBadUnless_1 (by decide) (fun h1 => ?_) (fun h1 => ?_)
  ·
    have e9 : (f_SM_refuseBadUnless xa, (0 : Int32), σ) = (0, 0, σ) := by simp only [f_SM_refuseBadUnless, if_neg h1]
    exact hend _ _ _ _ _ e9 (by decide) (by decide) dX7_refuseBadUnless_12
  ·
    have e9 : (f_SM_refuseBadUnless xa, (0 : Int32), σ) = (1, 0, σ) := by simp only [f_SM_refuseBadUnless, if_pos h1]
    exact hnew _ _ _ _ _ 1 _ e9 (by decide) tw_SM_1 dX7_refuseBadUnless_4 dX7_refuseBadUnless_7 dX7_refuseBadUnless_8 dX7_refuseBadUnless_11 (by decide) (by decide) (by decide) (Nat.le_of_ble_eq_true rfl)
def f_SM_refuseNowUnless (xa : Int32) : Int32 :=
  (if xa = 0 then 2 else 0)
set_option maxHeartbeats 4000000 in
set_option maxRecDepth 100000 in
theorem c_SM_refuseNowUnless (hlt : l.stackTraces = false) (xa : Int32) (σ : St) : CFV l D (tyL cA) rh (rcW rh cA) NW yX7_refuseNowUnless cX7_refuseNowUnless 1 6 1 6 [.int xa] σ (f_SM_refuseNowUnless xa, 0, σ) := by
  refine CFV.of rfl (Nat.le_of_ble_eq_true rfl) hlt ?_
  intro p9 e s m args below meth c A Q X hend hthr hnew
  refine v_lv (lv' := [(0, .int xa)]) [0] rfl ?_
  refine v_iload_n X 0 dX7_refuseNowUnless_0 rfl rfl ?_
  refine v_if_ne X 12 dX7_refuseNowUnless_1 (by decide) (fun h1 => ?_) (fun h1 => ?_)
  ·
    have e9 : (f_SM_refuseNowUnless xa, (0 : Int32), σ) = (0, 0, σ) := by simp only [f_SM_refuseNowUnless, if_neg h1]
    exact hend _ _ _ _ _ e9 (by decide) (by decide) dX7_refuseNowUnless_12
  ·
    have e9 : (f_SM_refuseNowUnless xa, (0 : Int32), σ) = (2, 0, σ) := by simp only [f_SM_refuseNowUnless, if_pos h1]
    exact hnew _ _ _ _ _ 2 _ e9 (by decide) tw_SM_2 dX7_refuseNowUnless_4 dX7_refuseNowUnless_7 dX7_refuseNowUnless_8 dX7_refuseNowUnless_11 (by decide) (by decide) (by decide) (Nat.le_of_ble_eq_true rfl)
end CLS
theorem rb_nz {b : Int32} (h : f_SM_refuseBadUnless b = 0) : ¬ b = 0 := by
  intro hb
  unfold f_SM_refuseBadUnless at h
  simp [hb] at h
theorem rn_nz {b : Int32} (h : f_SM_refuseNowUnless b = 0) : ¬ b = 0 := by
  intro hb
  unfold f_SM_refuseNowUnless at h
  simp [hb] at h
theorem ifnz {c : Prop} [Decidable c] {x : Int32} (h : ¬ (if c then (0 : Int32) else x) = 0) : ¬ c := fun hc => h (if_pos hc)
theorem run_b {n : Int32} (h : f_SM_refuseBadUnless (f_SM_within n 1 400) = 0) : 1 ≤ n.toInt ∧ n.toInt ≤ 400 := by
  have h1 := rb_nz h
  unfold f_SM_within at h1
  by_cases h2 : n < 1
  · simp [h2] at h1
  · by_cases h3 : (400 : Int32) < n
    · simp [h2, h3] at h1
    · rw [ilt] at h2 h3
      have z1 : (1 : Int32).toInt = 1 := by decide
      have z4 : (400 : Int32).toInt = 400 := by decide
      omega
theorem mf_CH_hourOrNone : MF yX0_hourOrNone cX0_hourOrNone 1 (some .int) 0 := ⟨gw_of (by decide +kernel) rfl, gw_of (by decide +kernel) rfl, by decide +kernel, by decide +kernel, by decide +kernel⟩
theorem mf_MA_overlapsAnother : MF yX2_overlapsAnother cX2_overlapsAnother 5 (some .boolean) 3 := ⟨gw_of (by decide +kernel) rfl, gw_of (by decide +kernel) rfl, by decide +kernel, by decide +kernel, by decide +kernel⟩
theorem mf_MA_start : MF yX2_start cX2_start 3 (some .int) 0 := ⟨gw_of (by decide +kernel) rfl, gw_of (by decide +kernel) rfl, by decide +kernel, by decide +kernel, by decide +kernel⟩
theorem mf_PT_sinceBooted : MF yX3_sinceBooted cX3_sinceBooted 2 (some .int) 1 := ⟨gw_of (by decide +kernel) rfl, gw_of (by decide +kernel) rfl, by decide +kernel, by decide +kernel, by decide +kernel⟩
theorem mf_SM_isPartition : MF yX7_isPartition cX7_isPartition 1 (some .boolean) 1 := ⟨gw_of (by decide +kernel) rfl, gw_of (by decide +kernel) rfl, by decide +kernel, by decide +kernel, by decide +kernel⟩
theorem mf_SM_isWord : MF yX7_isWord cX7_isWord 1 (some .boolean) 1 := ⟨gw_of (by decide +kernel) rfl, gw_of (by decide +kernel) rfl, by decide +kernel, by decide +kernel, by decide +kernel⟩
theorem mf_SM_refuseBadUnless : MF yX7_refuseBadUnless cX7_refuseBadUnless 1 none 1 := ⟨gw_of (by decide +kernel) rfl, gw_of (by decide +kernel) rfl, by decide +kernel, by decide +kernel, by decide +kernel⟩
theorem mf_SM_refuseNowUnless : MF yX7_refuseNowUnless cX7_refuseNowUnless 1 none 1 := ⟨gw_of (by decide +kernel) rfl, gw_of (by decide +kernel) rfl, by decide +kernel, by decide +kernel, by decide +kernel⟩
theorem mf_SM_tick : MF yX7_tick cX7_tick 3 (some .boolean) 0 := ⟨gw_of (by decide +kernel) rfl, gw_of (by decide +kernel) rfl, by decide +kernel, by decide +kernel, by decide +kernel⟩
theorem mf_TT_append : MF yX6_append cX6_append 3 none 2 := ⟨gw_of (by decide +kernel) rfl, gw_of (by decide +kernel) rfl, by decide +kernel, by decide +kernel, by decide +kernel⟩
theorem mf_TT_start : MF yX6_start cX6_start 1 none 0 := ⟨gw_of (by decide +kernel) rfl, gw_of (by decide +kernel) rfl, by decide +kernel, by decide +kernel, by decide +kernel⟩
theorem tw_SM_3 : TW RX7 54 56 (exN 3) ["java/lang/RuntimeException", "java/lang/Exception"] := ⟨gw_of (by decide +kernel) rfl, gw_of (by decide +kernel) rfl, by decide +kernel, by decide +kernel, tw_of (by decide +kernel)⟩
theorem wf_SM_112 : Cond.fieldLink RX7 112 RX2 "key" "I" ∈ gw := gw_of (by decide +kernel) rfl
theorem wf_SM_119 : Cond.fieldLink RX7 119 RX3 "pc" "I" ∈ gw := gw_of (by decide +kernel) rfl
theorem wf_SM_135 : Cond.fieldLink RX7 135 RX2 "slots" "[LSeparationMonitor$Slot;" ∈ gw := gw_of (by decide +kernel) rfl
theorem wf_SM_139 : Cond.fieldLink RX7 139 RX5 "held" "I" ∈ gw := gw_of (by decide +kernel) rfl
theorem wf_SM_144 : Cond.fieldLink RX7 144 RX5 "mark" "I" ∈ gw := gw_of (by decide +kernel) rfl
theorem wf_SM_150 : Cond.fieldLink RX7 150 RX6 "current" "I" ∈ gw := gw_of (by decide +kernel) rfl
theorem wf_SM_153 : Cond.fieldLink RX7 153 RX6 "left" "I" ∈ gw := gw_of (by decide +kernel) rfl
theorem wf_SM_156 : Cond.fieldLink RX7 156 RX6 "begun" "I" ∈ gw := gw_of (by decide +kernel) rfl
theorem wf_SM_25 : Cond.fieldLink RX7 25 RX7 "booted" "Z" ∈ gw := gw_of (by decide +kernel) rfl
theorem wf_SM_29 : Cond.fieldLink RX7 29 RX7 "boots" "I" ∈ gw := gw_of (by decide +kernel) rfl
theorem wf_SM_33 : Cond.fieldLink RX7 33 RX7 "log" "I" ∈ gw := gw_of (by decide +kernel) rfl
theorem wf_SM_61 : Cond.fieldLink RX7 61 RX3 "first" "I" ∈ gw := gw_of (by decide +kernel) rfl
theorem wf_SM_66 : Cond.fieldLink RX7 66 RX3 "size" "I" ∈ gw := gw_of (by decide +kernel) rfl
theorem wf_SM_72 : Cond.fieldLink RX7 72 RX2 "words" "[I" ∈ gw := gw_of (by decide +kernel) rfl
theorem wf_SM_76 : Cond.fieldLink RX7 76 RX3 "how" "I" ∈ gw := gw_of (by decide +kernel) rfl
theorem wf_SM_79 : Cond.fieldLink RX7 79 RX6 "size" "I" ∈ gw := gw_of (by decide +kernel) rfl
theorem wf_SM_87 : Cond.fieldLink RX7 87 RX2 "channels" "[LSeparationMonitor$Channel;" ∈ gw := gw_of (by decide +kernel) rfl
theorem wf_SM_91 : Cond.fieldLink RX7 91 RX0 "source" "I" ∈ gw := gw_of (by decide +kernel) rfl
theorem wf_SM_96 : Cond.fieldLink RX7 96 RX0 "readers" "I" ∈ gw := gw_of (by decide +kernel) rfl
theorem wf_SM_99 : Cond.fieldLink RX7 99 RX0 "period" "I" ∈ gw := gw_of (by decide +kernel) rfl
theorem wi_CH_hourOrNone : Cond.instanceMethod yX0_hourOrNone ∈ gw := gw_of (by decide +kernel) rfl
theorem wi_MA_overlapsAnother : Cond.instanceMethod yX2_overlapsAnother ∈ gw := gw_of (by decide +kernel) rfl
theorem wi_MA_start : Cond.instanceMethod yX2_start ∈ gw := gw_of (by decide +kernel) rfl
theorem wi_PT_sinceBooted : Cond.instanceMethod yX3_sinceBooted ∈ gw := gw_of (by decide +kernel) rfl
theorem wi_SM_tick : Cond.instanceMethod yX7_tick ∈ gw := gw_of (by decide +kernel) rfl
theorem wi_TT_append : Cond.instanceMethod yX6_append ∈ gw := gw_of (by decide +kernel) rfl
theorem wi_TT_start : Cond.instanceMethod yX6_start ∈ gw := gw_of (by decide +kernel) rfl
theorem wl_CH_hourOrNone : Cond.selects yX0_hourOrNone.cls yX0_hourOrNone yX0_hourOrNone ∈ gw := gw_of (by decide +kernel) rfl
theorem wl_MA_overlapsAnother : Cond.selects yX2_overlapsAnother.cls yX2_overlapsAnother yX2_overlapsAnother ∈ gw := gw_of (by decide +kernel) rfl
theorem wl_MA_start : Cond.selects yX2_start.cls yX2_start yX2_start ∈ gw := gw_of (by decide +kernel) rfl
theorem wl_PT_sinceBooted : Cond.selects yX3_sinceBooted.cls yX3_sinceBooted yX3_sinceBooted ∈ gw := gw_of (by decide +kernel) rfl
theorem wl_SM_tick : Cond.selects yX7_tick.cls yX7_tick yX7_tick ∈ gw := gw_of (by decide +kernel) rfl
theorem wl_TT_append : Cond.selects yX6_append.cls yX6_append yX6_append ∈ gw := gw_of (by decide +kernel) rfl
theorem wl_TT_start : Cond.selects yX6_start.cls yX6_start yX6_start ∈ gw := gw_of (by decide +kernel) rfl
theorem wm_SM_102 : Cond.methodLink RX7 102 yX2_start ∈ gw := gw_of (by decide +kernel) rfl
theorem wm_SM_106 : Cond.methodLink RX7 106 yX6_start ∈ gw := gw_of (by decide +kernel) rfl
theorem wm_SM_108 : Cond.methodLink RX7 108 yX7_tick ∈ gw := gw_of (by decide +kernel) rfl
theorem wm_SM_115 : Cond.methodLink RX7 115 yX7_mix ∈ gw := gw_of (by decide +kernel) rfl
theorem wm_SM_122 : Cond.methodLink RX7 122 yX3_get ∈ gw := gw_of (by decide +kernel) rfl
theorem wm_SM_126 : Cond.methodLink RX7 126 yX3_sinceBooted ∈ gw := gw_of (by decide +kernel) rfl
theorem wm_SM_129 : Cond.methodLink RX7 129 yX0_valueOrZero ∈ gw := gw_of (by decide +kernel) rfl
theorem wm_SM_132 : Cond.methodLink RX7 132 yX0_hourOrNone ∈ gw := gw_of (by decide +kernel) rfl
theorem wm_SM_36 : Cond.methodLink RX7 36 yX7_isPartition ∈ gw := gw_of (by decide +kernel) rfl
theorem wm_SM_44 : Cond.methodLink RX7 44 yX7_refuseBadUnless ∈ gw := gw_of (by decide +kernel) rfl
theorem wm_SM_48 : Cond.methodLink RX7 48 yX7_refuseNowUnless ∈ gw := gw_of (by decide +kernel) rfl
theorem wm_SM_51 : Cond.methodLink RX7 51 yX2_overlapsAnother ∈ gw := gw_of (by decide +kernel) rfl
theorem wm_SM_69 : Cond.methodLink RX7 69 yX7_isWord ∈ gw := gw_of (by decide +kernel) rfl
theorem wm_SM_80 : Cond.methodLink RX7 80 yX6_append ∈ gw := gw_of (by decide +kernel) rfl
theorem wm_SM_84 : Cond.methodLink RX7 84 yX7_isChannel ∈ gw := gw_of (by decide +kernel) rfl
theorem ws_SM_isPartition : Cond.static yX7_isPartition ∈ gw := gw_of (by decide +kernel) rfl
theorem ws_SM_isWord : Cond.static yX7_isWord ∈ gw := gw_of (by decide +kernel) rfl
theorem ws_SM_refuseBadUnless : Cond.static yX7_refuseBadUnless ∈ gw := gw_of (by decide +kernel) rfl
theorem ws_SM_refuseNowUnless : Cond.static yX7_refuseNowUnless ∈ gw := gw_of (by decide +kernel) rfl
section CLS
variable {l : Launch} {D : va_G} {rh : Nat → Nat} {cA : Nat → ClassId}
def f_SM_region (xa : Int32) (xb : Int32) (xc : Int32) (σ : St) : Int32 × Int32 × St :=
  (if f_SM_refuseBadUnless ((if (f_SM_isPartition xa) = 0 then 0 else (if (f_SM_within xb 0 95) = 0 then 0 else (if (f_SM_within xc 0 32) = 0 then 0 else (if 96 < (xb + xc) then 0 else 1)))) : Int32) = 0 then (if f_SM_refuseNowUnless ((if (σ iSM 2) = 0 then 1 else 0) : Int32) = 0 then (if (f_MA_overlapsAnother xa xb xc σ) = 0 then (0, 0, (up (up σ (iP (xa).toNatClampNeg) 1 xb) (iP (xa).toNatClampNeg) 2 xc)) else (3, 0, σ)) else (f_SM_refuseNowUnless ((if (σ iSM 2) = 0 then 1 else 0) : Int32), 0, σ)) else (f_SM_refuseBadUnless ((if (f_SM_isPartition xa) = 0 then 0 else (if (f_SM_within xb 0 95) = 0 then 0 else (if (f_SM_within xc 0 32) = 0 then 0 else (if 96 < (xb + xc) then 0 else 1)))) : Int32), 0, σ))
set_option maxHeartbeats 4000000 in
set_option maxRecDepth 100000 in
theorem c_SM_region (hlt : l.stackTraces = false) (xa : Int32) (xb : Int32) (xc : Int32) (σ : St) (hI : Ic σ) : CFV l D (tyL cA) rh (rcW rh cA) NW yX7_region cX7_region 5 7 3 18 [.ref (rh iSM), .int xa, .int xb, .int xc] σ (f_SM_region xa xb xc σ) := by
  refine CFV.of rfl (Nat.le_of_ble_eq_true rfl) hlt ?_
  intro p9 e s m args below meth c A Q X hend hthr hnew
  refine v_lv (lv' := [(0, .ref (rh iSM)), (1, .int xa), (2, .int xb), (3, .int xc)]) [0, 1, 2, 3] rfl ?_
  refine v_iload_n X 1 dX7_region_0 rfl rfl ?_
  refine v_callS_CI (rest := []) X [.int xa] (c_SM_isPartition xa σ ) mf_SM_isPartition ws_SM_isPartition wm_SM_36 rfl ⟨by decide, by decide⟩ (Nat.le_of_ble_eq_true rfl) ⟨by decide, by decide⟩ dX7_region_1 ?_
  refine v_suff (pc2 := 40) (lv2 := [(0, .ref (rh iSM)), (1, .int xa), (2, .int xb), (3, .int xc)]) (st2 := [.int ((if (f_SM_isPartition xa) = 0 then 0 else (if (f_SM_within xb 0 95) = 0 then 0 else (if (f_SM_within xc 0 32) = 0 then 0 else (if 96 < (xb + xc) then 0 else 1)))) : Int32)]) (σ2 := σ) ?_ (fun J4 => ?_)
  rotate_left
  ·
    refine v_if_eq X 39 dX7_region_4 (by decide) (fun h4 => ?_) (fun h4 => ?_)
    ·
      refine v_iconst (v := 0) X dX7_region_39 (by decide) ?_
      have e9 : (((if (f_SM_isPartition xa) = 0 then 0 else (if (f_SM_within xb 0 95) = 0 then 0 else (if (f_SM_within xc 0 32) = 0 then 0 else (if 96 < (xb + xc) then 0 else 1)))) : Int32) : Int32) = 0 := by simp only [if_pos h4]
      rw [e9] at J4
      exact J4
    ·
      refine v_iload_n X 2 dX7_region_7 rfl rfl ?_
      refine v_iconst (v := 0) X dX7_region_8 (by decide) ?_
      refine v_bipush (v := 95) X dX7_region_9 (by decide) ?_
      refine v_callS_CI (rest := []) X [.int xb, .int 0, .int 95] (c_SM_within xb 0 95 σ ) mf_SM_within ws_SM_within wm_SM_40 rfl ⟨by decide, by decide⟩ (Nat.le_of_ble_eq_true rfl) ⟨by decide, by decide⟩ dX7_region_11 ?_
      refine v_if_eq X 39 dX7_region_14 (by decide) (fun h14 => ?_) (fun h14 => ?_)
      ·
        refine v_iconst (v := 0) X dX7_region_39 (by decide) ?_
        have e9 : (((if (f_SM_isPartition xa) = 0 then 0 else (if (f_SM_within xb 0 95) = 0 then 0 else (if (f_SM_within xc 0 32) = 0 then 0 else (if 96 < (xb + xc) then 0 else 1)))) : Int32) : Int32) = 0 := by simp only [if_neg h4, if_pos h14]
        rw [e9] at J4
        exact J4
      ·
        refine v_iload_n X 3 dX7_region_17 rfl rfl ?_
        refine v_iconst (v := 0) X dX7_region_18 (by decide) ?_
        refine v_bipush (v := 32) X dX7_region_19 (by decide) ?_
        refine v_callS_CI (rest := []) X [.int xc, .int 0, .int 32] (c_SM_within xc 0 32 σ ) mf_SM_within ws_SM_within wm_SM_40 rfl ⟨by decide, by decide⟩ (Nat.le_of_ble_eq_true rfl) ⟨by decide, by decide⟩ dX7_region_21 ?_
        refine v_if_eq X 39 dX7_region_24 (by decide) (fun h24 => ?_) (fun h24 => ?_)
        ·
          refine v_iconst (v := 0) X dX7_region_39 (by decide) ?_
          have e9 : (((if (f_SM_isPartition xa) = 0 then 0 else (if (f_SM_within xb 0 95) = 0 then 0 else (if (f_SM_within xc 0 32) = 0 then 0 else (if 96 < (xb + xc) then 0 else 1)))) : Int32) : Int32) = 0 := by simp only [if_neg h4, if_neg h14, if_pos h24]
          rw [e9] at J4
          exact J4
        ·
          refine v_iload_n X 2 dX7_region_27 rfl rfl ?_
          refine v_iload_n X 3 dX7_region_28 rfl rfl ?_
          refine v_iadd X dX7_region_29 ?_
          refine v_bipush (v := 96) X dX7_region_30 (by decide) ?_
          refine v_icmp_gt X 39 dX7_region_32 (by decide) (fun h32 => ?_) (fun h32 => ?_)
          ·
            refine v_iconst (v := 0) X dX7_region_39 (by decide) ?_
            have e9 : (((if (f_SM_isPartition xa) = 0 then 0 else (if (f_SM_within xb 0 95) = 0 then 0 else (if (f_SM_within xc 0 32) = 0 then 0 else (if 96 < (xb + xc) then 0 else 1)))) : Int32) : Int32) = 0 := by simp only [if_neg h4, if_neg h14, if_neg h24, if_pos h32]
            rw [e9] at J4
            exact J4
          ·
            refine v_iconst (v := 1) X dX7_region_35 (by decide) ?_
            refine v_goto (tgt := 40) X dX7_region_36 (by decide) ?_
            have e9 : (((if (f_SM_isPartition xa) = 0 then 0 else (if (f_SM_within xb 0 95) = 0 then 0 else (if (f_SM_within xc 0 32) = 0 then 0 else (if 96 < (xb + xc) then 0 else 1)))) : Int32) : Int32) = 1 := by simp only [if_neg h4, if_neg h14, if_neg h24, if_neg h32]
            rw [e9] at J4
            exact J4
  refine v_callS_CFV (rest := []) X [.int ((if (f_SM_isPartition xa) = 0 then 0 else (if (f_SM_within xb 0 95) = 0 then 0 else (if (f_SM_within xc 0 32) = 0 then 0 else (if 96 < (xb + xc) then 0 else 1)))) : Int32)] (c_SM_refuseBadUnless hlt ((if (f_SM_isPartition xa) = 0 then 0 else (if (f_SM_within xb 0 95) = 0 then 0 else (if (f_SM_within xc 0 32) = 0 then 0 else (if 96 < (xb + xc) then 0 else 1)))) : Int32) σ ) mf_SM_refuseBadUnless ws_SM_refuseBadUnless wm_SM_44 rfl ⟨by decide, by decide⟩ (Nat.le_of_ble_eq_true rfl) ⟨by decide, by decide⟩ dX7_region_40 (fun h40 => ?_) (fun h40 => ?_)
  ·
    have e9 : f_SM_region xa xb xc σ = (f_SM_refuseBadUnless ((if (f_SM_isPartition xa) = 0 then 0 else (if (f_SM_within xb 0 95) = 0 then 0 else (if (f_SM_within xc 0 32) = 0 then 0 else (if 96 < (xb + xc) then 0 else 1)))) : Int32), 0, σ) := by simp only [f_SM_region, if_neg h40]
    exact hthr _ _ _ _ _ _ _ e9 h40 (by decide) (by decide)
  refine v_aload_n X 0 dX7_region_43 rfl rfl ?_
  refine v_getI (i := iSM) (k := 2) X (lt_SM ) (sh_SM ) rfl in_SM (by decide) wf_SM_25 rfl (fun _ => rfl) dX7_region_44 ?_
  refine v_suff (pc2 := 55) (lv2 := [(0, .ref (rh iSM)), (1, .int xa), (2, .int xb), (3, .int xc)]) (st2 := [.int ((if (σ iSM 2) = 0 then 1 else 0) : Int32)]) (σ2 := σ) ?_ (fun J47 => ?_)
  rotate_left
  ·
    refine v_if_ne X 54 dX7_region_47 (by decide) (fun h47 => ?_) (fun h47 => ?_)
    ·
      refine v_iconst (v := 0) X dX7_region_54 (by decide) ?_
      have e9 : (((if (σ iSM 2) = 0 then 1 else 0) : Int32) : Int32) = 0 := by simp only [if_neg h47]
      rw [e9] at J47
      exact J47
    ·
      refine v_iconst (v := 1) X dX7_region_50 (by decide) ?_
      refine v_goto (tgt := 55) X dX7_region_51 (by decide) ?_
      have e9 : (((if (σ iSM 2) = 0 then 1 else 0) : Int32) : Int32) = 1 := by simp only [if_pos h47]
      rw [e9] at J47
      exact J47
  refine v_callS_CFV (rest := []) X [.int ((if (σ iSM 2) = 0 then 1 else 0) : Int32)] (c_SM_refuseNowUnless hlt ((if (σ iSM 2) = 0 then 1 else 0) : Int32) σ ) mf_SM_refuseNowUnless ws_SM_refuseNowUnless wm_SM_48 rfl ⟨by decide, by decide⟩ (Nat.le_of_ble_eq_true rfl) ⟨by decide, by decide⟩ dX7_region_55 (fun h55 => ?_) (fun h55 => ?_)
  ·
    have e9 : f_SM_region xa xb xc σ = (f_SM_refuseNowUnless ((if (σ iSM 2) = 0 then 1 else 0) : Int32), 0, σ) := by simp only [f_SM_region, if_pos h40, if_neg h55]
    exact hthr _ _ _ _ _ _ _ e9 h55 (by decide) (by decide)
  refine v_aload_n X 0 dX7_region_58 rfl rfl ?_
  refine v_getR (j := iMA) (i := iSM) (k := 0) X (lt_SM ) (sh_SM ) rfl in_SM (by decide) wf_SM_12 rfl (fun _ => rfl) dX7_region_59 ?_
  refine v_iload_n X 1 dX7_region_62 rfl rfl ?_
  refine v_iload_n X 2 dX7_region_63 rfl rfl ?_
  refine v_iload_n X 3 dX7_region_64 rfl rfl ?_
  refine v_callV_CI (rest := []) X [.int xa, .int xb, .int xc] (c_MA_overlapsAnother xa xb xc σ ) mf_MA_overlapsAnother wi_MA_overlapsAnother wl_MA_overlapsAnother (lt_MA ) (sh_MA ) rfl wm_SM_51 rfl ⟨by decide, by decide⟩ (Nat.le_of_ble_eq_true rfl) ⟨by decide, by decide⟩ dX7_region_65 ?_
  refine v_if_eq X 79 dX7_region_68 (by decide) (fun h68 => ?_) (fun h68 => ?_)
  ·
    refine v_aload_n X 0 dX7_region_79 rfl rfl ?_
    refine v_getR (j := iMA) (i := iSM) (k := 0) X (lt_SM ) (sh_SM ) rfl in_SM (by decide) wf_SM_12 rfl (fun _ => rfl) dX7_region_80 ?_
    refine v_getR (j := iAP) (i := iMA) (k := 2) X (lt_MA ) (sh_MA ) rfl in_MA (by decide) wf_SM_57 rfl (fun _ => rfl) dX7_region_83 ?_
    refine v_iload_n X 1 dX7_region_86 rfl rfl ?_
    have hv87 : vp_in xa 4 := (pt_in (ifnz (rb_nz h40)))
    refine v_aald (i := iAP) (t0 := 1) (g := iP) X (lt_APT ) (sh_APT ) rfl hv87 dX7_region_87 ?_
    refine v_astore (lv' := [(4, .ref (rh (iP (xa).toNatClampNeg))), (0, .ref (rh iSM)), (1, .int xa), (2, .int xb), (3, .int xc)]) X dX7_region_88 (by decide) rfl ?_
    refine v_aload X 0 dX7_region_90 rfl ?_
    refine v_iload_n X 3 dX7_region_92 rfl rfl ?_
    refine v_put (i := (iP (xa).toNatClampNeg)) (k := 1) (x := xb) (ty := .int) X (lt_PT (vin_lt hv87)) (sh_PT (vin_lt hv87)) rfl in_PT (by decide) tyX3 tyX3_ok nX3 wf_SM_61 rfl rfl rfl rfl rfl (fun _ => Nat.le_of_ble_eq_true rfl) (fun _ _ => rfl) dX7_region_93 ?_
    generalize hg93 : (up σ (iP (xa).toNatClampNeg) 1 xb) = g93
    refine v_aload X 0 dX7_region_96 rfl ?_
    refine v_iload_n X 4 dX7_region_98 rfl rfl ?_
    refine v_put (i := (iP (xa).toNatClampNeg)) (k := 2) (x := xc) (ty := .int) X (lt_PT (vin_lt hv87)) (sh_PT (vin_lt hv87)) rfl in_PT (by decide) tyX3 tyX3_ok nX3 wf_SM_66 rfl rfl rfl rfl rfl (fun _ => Nat.le_of_ble_eq_true rfl) (fun _ _ => rfl) dX7_region_99 ?_
    generalize hg99 : (up g93 (iP (xa).toNatClampNeg) 2 xc) = g99
    have e9 : f_SM_region xa xb xc σ = (0, 0, g99) := by subst hg93; subst hg99; simp only [f_SM_region, if_pos h40, if_pos h55, if_pos h68]
    exact hend _ _ _ _ _ e9 (by decide) (by decide) dX7_region_102
  ·
    have e9 : f_SM_region xa xb xc σ = (3, 0, σ) := by simp only [f_SM_region, if_pos h40, if_pos h55, if_neg h68]
    exact hnew _ _ _ _ _ 3 _ e9 (by decide) tw_SM_3 dX7_region_71 dX7_region_74 dX7_region_75 dX7_region_78 (by decide) (by decide) (by decide) (Nat.le_of_ble_eq_true rfl)
def f_SM_load (xa : Int32) (xb : Int32) (σ : St) : Int32 × Int32 × St :=
  (if f_SM_refuseBadUnless (f_SM_isWord xa) = 0 then (if f_SM_refuseNowUnless ((if (σ iSM 2) = 0 then 1 else 0) : Int32) = 0 then (0, 0, (up σ iWO (xa).toNatClampNeg xb)) else (f_SM_refuseNowUnless ((if (σ iSM 2) = 0 then 1 else 0) : Int32), 0, σ)) else (f_SM_refuseBadUnless (f_SM_isWord xa), 0, σ))
set_option maxHeartbeats 4000000 in
set_option maxRecDepth 100000 in
theorem c_SM_load (hlt : l.stackTraces = false) (xa : Int32) (xb : Int32) (σ : St) (hI : Ic σ) : CFV l D (tyL cA) rh (rcW rh cA) NW yX7_load cX7_load 3 7 3 18 [.ref (rh iSM), .int xa, .int xb] σ (f_SM_load xa xb σ) := by
  refine CFV.of rfl (Nat.le_of_ble_eq_true rfl) hlt ?_
  intro p9 e s m args below meth c A Q X hend hthr hnew
  refine v_lv (lv' := [(0, .ref (rh iSM)), (1, .int xa), (2, .int xb)]) [0, 1, 2] rfl ?_
  refine v_iload_n X 1 dX7_load_0 rfl rfl ?_
  refine v_callS_CI (rest := []) X [.int xa] (c_SM_isWord xa σ ) mf_SM_isWord ws_SM_isWord wm_SM_69 rfl ⟨by decide, by decide⟩ (Nat.le_of_ble_eq_true rfl) ⟨by decide, by decide⟩ dX7_load_1 ?_
  refine v_callS_CFV (rest := []) X [.int (f_SM_isWord xa)] (c_SM_refuseBadUnless hlt (f_SM_isWord xa) σ ) mf_SM_refuseBadUnless ws_SM_refuseBadUnless wm_SM_44 rfl ⟨by decide, by decide⟩ (Nat.le_of_ble_eq_true rfl) ⟨by decide, by decide⟩ dX7_load_4 (fun h4 => ?_) (fun h4 => ?_)
  ·
    have e9 : f_SM_load xa xb σ = (f_SM_refuseBadUnless (f_SM_isWord xa), 0, σ) := by simp only [f_SM_load, if_neg h4]
    exact hthr _ _ _ _ _ _ _ e9 h4 (by decide) (by decide)
  refine v_aload_n X 0 dX7_load_7 rfl rfl ?_
  refine v_getI (i := iSM) (k := 2) X (lt_SM ) (sh_SM ) rfl in_SM (by decide) wf_SM_25 rfl (fun _ => rfl) dX7_load_8 ?_
  refine v_suff (pc2 := 19) (lv2 := [(0, .ref (rh iSM)), (1, .int xa), (2, .int xb)]) (st2 := [.int ((if (σ iSM 2) = 0 then 1 else 0) : Int32)]) (σ2 := σ) ?_ (fun J11 => ?_)
  rotate_left
  ·
    refine v_if_ne X 18 dX7_load_11 (by decide) (fun h11 => ?_) (fun h11 => ?_)
    ·
      refine v_iconst (v := 0) X dX7_load_18 (by decide) ?_
      have e9 : (((if (σ iSM 2) = 0 then 1 else 0) : Int32) : Int32) = 0 := by simp only [if_neg h11]
      rw [e9] at J11
      exact J11
    ·
      refine v_iconst (v := 1) X dX7_load_14 (by decide) ?_
      refine v_goto (tgt := 19) X dX7_load_15 (by decide) ?_
      have e9 : (((if (σ iSM 2) = 0 then 1 else 0) : Int32) : Int32) = 1 := by simp only [if_pos h11]
      rw [e9] at J11
      exact J11
  refine v_callS_CFV (rest := []) X [.int ((if (σ iSM 2) = 0 then 1 else 0) : Int32)] (c_SM_refuseNowUnless hlt ((if (σ iSM 2) = 0 then 1 else 0) : Int32) σ ) mf_SM_refuseNowUnless ws_SM_refuseNowUnless wm_SM_48 rfl ⟨by decide, by decide⟩ (Nat.le_of_ble_eq_true rfl) ⟨by decide, by decide⟩ dX7_load_19 (fun h19 => ?_) (fun h19 => ?_)
  ·
    have e9 : f_SM_load xa xb σ = (f_SM_refuseNowUnless ((if (σ iSM 2) = 0 then 1 else 0) : Int32), 0, σ) := by simp only [f_SM_load, if_pos h4, if_neg h19]
    exact hthr _ _ _ _ _ _ _ e9 h19 (by decide) (by decide)
  refine v_aload_n X 0 dX7_load_22 rfl rfl ?_
  refine v_getR (j := iMA) (i := iSM) (k := 0) X (lt_SM ) (sh_SM ) rfl in_SM (by decide) wf_SM_12 rfl (fun _ => rfl) dX7_load_23 ?_
  refine v_getR (j := iWO) (i := iMA) (k := 1) X (lt_MA ) (sh_MA ) rfl in_MA (by decide) wf_SM_72 rfl (fun _ => rfl) dX7_load_26 ?_
  refine v_iload_n X 1 dX7_load_29 rfl rfl ?_
  refine v_iload_n X 2 dX7_load_30 rfl rfl ?_
  have hv31 : vp_in xa 96 := (wo_in (rb_nz h4))
  refine v_iast (i := iWO) (t0 := 0) X (lt_WO ) (sh_WO ) rfl hv31 dX7_load_31 ?_
  generalize hg31 : (up σ iWO (xa).toNatClampNeg xb) = g31
  have hI31 : Ic g31 := by rw [← hg31]; exact (Ic.upWO hI)
  have e9 : f_SM_load xa xb σ = (0, 0, g31) := by subst hg31; simp only [f_SM_load, if_pos h4, if_pos h19]
  exact hend _ _ _ _ _ e9 (by decide) (by decide) dX7_load_32
def f_SM_policy (xa : Int32) (xb : Int32) (σ : St) : Int32 × Int32 × St :=
  (if f_SM_refuseBadUnless ((if (f_SM_isPartition xa) = 0 then 0 else (if (f_SM_within xb 0 2) = 0 then 0 else 1)) : Int32) = 0 then (if f_SM_refuseNowUnless ((if (σ iSM 2) = 0 then 1 else 0) : Int32) = 0 then (0, 0, (up σ (iP (xa).toNatClampNeg) 3 xb)) else (f_SM_refuseNowUnless ((if (σ iSM 2) = 0 then 1 else 0) : Int32), 0, σ)) else (f_SM_refuseBadUnless ((if (f_SM_isPartition xa) = 0 then 0 else (if (f_SM_within xb 0 2) = 0 then 0 else 1)) : Int32), 0, σ))
set_option maxHeartbeats 4000000 in
set_option maxRecDepth 100000 in
theorem c_SM_policy (hlt : l.stackTraces = false) (xa : Int32) (xb : Int32) (σ : St) (hI : Ic σ) : CFV l D (tyL cA) rh (rcW rh cA) NW yX7_policy cX7_policy 3 7 3 18 [.ref (rh iSM), .int xa, .int xb] σ (f_SM_policy xa xb σ) := by
  refine CFV.of rfl (Nat.le_of_ble_eq_true rfl) hlt ?_
  intro p9 e s m args below meth c A Q X hend hthr hnew
  refine v_lv (lv' := [(0, .ref (rh iSM)), (1, .int xa), (2, .int xb)]) [0, 1, 2] rfl ?_
  refine v_iload_n X 1 dX7_policy_0 rfl rfl ?_
  refine v_callS_CI (rest := []) X [.int xa] (c_SM_isPartition xa σ ) mf_SM_isPartition ws_SM_isPartition wm_SM_36 rfl ⟨by decide, by decide⟩ (Nat.le_of_ble_eq_true rfl) ⟨by decide, by decide⟩ dX7_policy_1 ?_
  refine v_suff (pc2 := 21) (lv2 := [(0, .ref (rh iSM)), (1, .int xa), (2, .int xb)]) (st2 := [.int ((if (f_SM_isPartition xa) = 0 then 0 else (if (f_SM_within xb 0 2) = 0 then 0 else 1)) : Int32)]) (σ2 := σ) ?_ (fun J4 => ?_)
  rotate_left
  ·
    refine v_if_eq X 20 dX7_policy_4 (by decide) (fun h4 => ?_) (fun h4 => ?_)
    ·
      refine v_iconst (v := 0) X dX7_policy_20 (by decide) ?_
      have e9 : (((if (f_SM_isPartition xa) = 0 then 0 else (if (f_SM_within xb 0 2) = 0 then 0 else 1)) : Int32) : Int32) = 0 := by simp only [if_pos h4]
      rw [e9] at J4
      exact J4
    ·
      refine v_iload_n X 2 dX7_policy_7 rfl rfl ?_
      refine v_iconst (v := 0) X dX7_policy_8 (by decide) ?_
      refine v_iconst (v := 2) X dX7_policy_9 (by decide) ?_
      refine v_callS_CI (rest := []) X [.int xb, .int 0, .int 2] (c_SM_within xb 0 2 σ ) mf_SM_within ws_SM_within wm_SM_40 rfl ⟨by decide, by decide⟩ (Nat.le_of_ble_eq_true rfl) ⟨by decide, by decide⟩ dX7_policy_10 ?_
      refine v_if_eq X 20 dX7_policy_13 (by decide) (fun h13 => ?_) (fun h13 => ?_)
      ·
        refine v_iconst (v := 0) X dX7_policy_20 (by decide) ?_
        have e9 : (((if (f_SM_isPartition xa) = 0 then 0 else (if (f_SM_within xb 0 2) = 0 then 0 else 1)) : Int32) : Int32) = 0 := by simp only [if_neg h4, if_pos h13]
        rw [e9] at J4
        exact J4
      ·
        refine v_iconst (v := 1) X dX7_policy_16 (by decide) ?_
        refine v_goto (tgt := 21) X dX7_policy_17 (by decide) ?_
        have e9 : (((if (f_SM_isPartition xa) = 0 then 0 else (if (f_SM_within xb 0 2) = 0 then 0 else 1)) : Int32) : Int32) = 1 := by simp only [if_neg h4, if_neg h13]
        rw [e9] at J4
        exact J4
  refine v_callS_CFV (rest := []) X [.int ((if (f_SM_isPartition xa) = 0 then 0 else (if (f_SM_within xb 0 2) = 0 then 0 else 1)) : Int32)] (c_SM_refuseBadUnless hlt ((if (f_SM_isPartition xa) = 0 then 0 else (if (f_SM_within xb 0 2) = 0 then 0 else 1)) : Int32) σ ) mf_SM_refuseBadUnless ws_SM_refuseBadUnless wm_SM_44 rfl ⟨by decide, by decide⟩ (Nat.le_of_ble_eq_true rfl) ⟨by decide, by decide⟩ dX7_policy_21 (fun h21 => ?_) (fun h21 => ?_)
  ·
    have e9 : f_SM_policy xa xb σ = (f_SM_refuseBadUnless ((if (f_SM_isPartition xa) = 0 then 0 else (if (f_SM_within xb 0 2) = 0 then 0 else 1)) : Int32), 0, σ) := by simp only [f_SM_policy, if_neg h21]
    exact hthr _ _ _ _ _ _ _ e9 h21 (by decide) (by decide)
  refine v_aload_n X 0 dX7_policy_24 rfl rfl ?_
  refine v_getI (i := iSM) (k := 2) X (lt_SM ) (sh_SM ) rfl in_SM (by decide) wf_SM_25 rfl (fun _ => rfl) dX7_policy_25 ?_
  refine v_suff (pc2 := 36) (lv2 := [(0, .ref (rh iSM)), (1, .int xa), (2, .int xb)]) (st2 := [.int ((if (σ iSM 2) = 0 then 1 else 0) : Int32)]) (σ2 := σ) ?_ (fun J28 => ?_)
  rotate_left
  ·
    refine v_if_ne X 35 dX7_policy_28 (by decide) (fun h28 => ?_) (fun h28 => ?_)
    ·
      refine v_iconst (v := 0) X dX7_policy_35 (by decide) ?_
      have e9 : (((if (σ iSM 2) = 0 then 1 else 0) : Int32) : Int32) = 0 := by simp only [if_neg h28]
      rw [e9] at J28
      exact J28
    ·
      refine v_iconst (v := 1) X dX7_policy_31 (by decide) ?_
      refine v_goto (tgt := 36) X dX7_policy_32 (by decide) ?_
      have e9 : (((if (σ iSM 2) = 0 then 1 else 0) : Int32) : Int32) = 1 := by simp only [if_pos h28]
      rw [e9] at J28
      exact J28
  refine v_callS_CFV (rest := []) X [.int ((if (σ iSM 2) = 0 then 1 else 0) : Int32)] (c_SM_refuseNowUnless hlt ((if (σ iSM 2) = 0 then 1 else 0) : Int32) σ ) mf_SM_refuseNowUnless ws_SM_refuseNowUnless wm_SM_48 rfl ⟨by decide, by decide⟩ (Nat.le_of_ble_eq_true rfl) ⟨by decide, by decide⟩ dX7_policy_36 (fun h36 => ?_) (fun h36 => ?_)
  ·
    have e9 : f_SM_policy xa xb σ = (f_SM_refuseNowUnless ((if (σ iSM 2) = 0 then 1 else 0) : Int32), 0, σ) := by simp only [f_SM_policy, if_pos h21, if_neg h36]
    exact hthr _ _ _ _ _ _ _ e9 h36 (by decide) (by decide)
  refine v_aload_n X 0 dX7_policy_39 rfl rfl ?_
  refine v_getR (j := iMA) (i := iSM) (k := 0) X (lt_SM ) (sh_SM ) rfl in_SM (by decide) wf_SM_12 rfl (fun _ => rfl) dX7_policy_40 ?_
  refine v_getR (j := iAP) (i := iMA) (k := 2) X (lt_MA ) (sh_MA ) rfl in_MA (by decide) wf_SM_57 rfl (fun _ => rfl) dX7_policy_43 ?_
  refine v_iload_n X 1 dX7_policy_46 rfl rfl ?_
  have hv47 : vp_in xa 4 := (pt_in (ifnz (rb_nz h21)))
  refine v_aald (i := iAP) (t0 := 1) (g := iP) X (lt_APT ) (sh_APT ) rfl hv47 dX7_policy_47 ?_
  refine v_iload_n X 2 dX7_policy_48 rfl rfl ?_
  refine v_put (i := (iP (xa).toNatClampNeg)) (k := 3) (x := xb) (ty := .int) X (lt_PT (vin_lt hv47)) (sh_PT (vin_lt hv47)) rfl in_PT (by decide) tyX3 tyX3_ok nX3 wf_SM_76 rfl rfl rfl rfl rfl (fun _ => Nat.le_of_ble_eq_true rfl) (fun _ _ => rfl) dX7_policy_49 ?_
  generalize hg49 : (up σ (iP (xa).toNatClampNeg) 3 xb) = g49
  have hI49 : Ic g49 := by rw [← hg49]; exact (Ic.upPT hI (by decide))
  have e9 : f_SM_policy xa xb σ = (0, 0, g49) := by subst hg49; simp only [f_SM_policy, if_pos h21, if_pos h36]
  exact hend _ _ _ _ _ e9 (by decide) (by decide) dX7_policy_52
def f_SM_window (xa : Int32) (xb : Int32) (σ : St) : Int32 × Int32 × St :=
  (if f_SM_refuseBadUnless ((if (f_SM_isPartition xa) = 0 then 0 else (if (f_SM_within xb 1 20) = 0 then 0 else 1)) : Int32) = 0 then (if f_SM_refuseNowUnless ((if (σ iSM 2) = 0 then (if 6 ≤ (σ iTT 2) then 0 else 1) else 0) : Int32) = 0 then (0, ((f_TT_append xa xb σ) iTT 2), (f_TT_append xa xb σ)) else (f_SM_refuseNowUnless ((if (σ iSM 2) = 0 then (if 6 ≤ (σ iTT 2) then 0 else 1) else 0) : Int32), 0, σ)) else (f_SM_refuseBadUnless ((if (f_SM_isPartition xa) = 0 then 0 else (if (f_SM_within xb 1 20) = 0 then 0 else 1)) : Int32), 0, σ))
set_option maxHeartbeats 4000000 in
set_option maxRecDepth 100000 in
theorem c_SM_window (hlt : l.stackTraces = false) (xa : Int32) (xb : Int32) (σ : St) (hI : Ic σ) : CFI l D (tyL cA) rh (rcW rh cA) NW yX7_window cX7_window 3 7 3 18 [.ref (rh iSM), .int xa, .int xb] σ (f_SM_window xa xb σ) := by
  refine CFI.of rfl (Nat.le_of_ble_eq_true rfl) hlt ?_
  intro p9 e s m args below meth c A Q X hend hthr hnew
  refine v_lv (lv' := [(0, .ref (rh iSM)), (1, .int xa), (2, .int xb)]) [0, 1, 2] rfl ?_
  refine v_iload_n X 1 dX7_window_0 rfl rfl ?_
  refine v_callS_CI (rest := []) X [.int xa] (c_SM_isPartition xa σ ) mf_SM_isPartition ws_SM_isPartition wm_SM_36 rfl ⟨by decide, by decide⟩ (Nat.le_of_ble_eq_true rfl) ⟨by decide, by decide⟩ dX7_window_1 ?_
  refine v_suff (pc2 := 22) (lv2 := [(0, .ref (rh iSM)), (1, .int xa), (2, .int xb)]) (st2 := [.int ((if (f_SM_isPartition xa) = 0 then 0 else (if (f_SM_within xb 1 20) = 0 then 0 else 1)) : Int32)]) (σ2 := σ) ?_ (fun J4 => ?_)
  rotate_left
  ·
    refine v_if_eq X 21 dX7_window_4 (by decide) (fun h4 => ?_) (fun h4 => ?_)
    ·
      refine v_iconst (v := 0) X dX7_window_21 (by decide) ?_
      have e9 : (((if (f_SM_isPartition xa) = 0 then 0 else (if (f_SM_within xb 1 20) = 0 then 0 else 1)) : Int32) : Int32) = 0 := by simp only [if_pos h4]
      rw [e9] at J4
      exact J4
    ·
      refine v_iload_n X 2 dX7_window_7 rfl rfl ?_
      refine v_iconst (v := 1) X dX7_window_8 (by decide) ?_
      refine v_bipush (v := 20) X dX7_window_9 (by decide) ?_
      refine v_callS_CI (rest := []) X [.int xb, .int 1, .int 20] (c_SM_within xb 1 20 σ ) mf_SM_within ws_SM_within wm_SM_40 rfl ⟨by decide, by decide⟩ (Nat.le_of_ble_eq_true rfl) ⟨by decide, by decide⟩ dX7_window_11 ?_
      refine v_if_eq X 21 dX7_window_14 (by decide) (fun h14 => ?_) (fun h14 => ?_)
      ·
        refine v_iconst (v := 0) X dX7_window_21 (by decide) ?_
        have e9 : (((if (f_SM_isPartition xa) = 0 then 0 else (if (f_SM_within xb 1 20) = 0 then 0 else 1)) : Int32) : Int32) = 0 := by simp only [if_neg h4, if_pos h14]
        rw [e9] at J4
        exact J4
      ·
        refine v_iconst (v := 1) X dX7_window_17 (by decide) ?_
        refine v_goto (tgt := 22) X dX7_window_18 (by decide) ?_
        have e9 : (((if (f_SM_isPartition xa) = 0 then 0 else (if (f_SM_within xb 1 20) = 0 then 0 else 1)) : Int32) : Int32) = 1 := by simp only [if_neg h4, if_neg h14]
        rw [e9] at J4
        exact J4
  refine v_callS_CFV (rest := []) X [.int ((if (f_SM_isPartition xa) = 0 then 0 else (if (f_SM_within xb 1 20) = 0 then 0 else 1)) : Int32)] (c_SM_refuseBadUnless hlt ((if (f_SM_isPartition xa) = 0 then 0 else (if (f_SM_within xb 1 20) = 0 then 0 else 1)) : Int32) σ ) mf_SM_refuseBadUnless ws_SM_refuseBadUnless wm_SM_44 rfl ⟨by decide, by decide⟩ (Nat.le_of_ble_eq_true rfl) ⟨by decide, by decide⟩ dX7_window_22 (fun h22 => ?_) (fun h22 => ?_)
  ·
    have e9 : f_SM_window xa xb σ = (f_SM_refuseBadUnless ((if (f_SM_isPartition xa) = 0 then 0 else (if (f_SM_within xb 1 20) = 0 then 0 else 1)) : Int32), 0, σ) := by simp only [f_SM_window, if_neg h22]
    exact hthr _ _ _ _ _ _ _ e9 h22 (by decide) (by decide)
  refine v_aload_n X 0 dX7_window_25 rfl rfl ?_
  refine v_getI (i := iSM) (k := 2) X (lt_SM ) (sh_SM ) rfl in_SM (by decide) wf_SM_25 rfl (fun _ => rfl) dX7_window_26 ?_
  refine v_suff (pc2 := 49) (lv2 := [(0, .ref (rh iSM)), (1, .int xa), (2, .int xb)]) (st2 := [.int ((if (σ iSM 2) = 0 then (if 6 ≤ (σ iTT 2) then 0 else 1) else 0) : Int32)]) (σ2 := σ) ?_ (fun J29 => ?_)
  rotate_left
  ·
    refine v_if_ne X 48 dX7_window_29 (by decide) (fun h29 => ?_) (fun h29 => ?_)
    ·
      refine v_iconst (v := 0) X dX7_window_48 (by decide) ?_
      have e9 : (((if (σ iSM 2) = 0 then (if 6 ≤ (σ iTT 2) then 0 else 1) else 0) : Int32) : Int32) = 0 := by simp only [if_neg h29]
      rw [e9] at J29
      exact J29
    ·
      refine v_aload_n X 0 dX7_window_32 rfl rfl ?_
      refine v_getR (j := iTT) (i := iSM) (k := 1) X (lt_SM ) (sh_SM ) rfl in_SM (by decide) wf_SM_21 rfl (fun _ => rfl) dX7_window_33 ?_
      refine v_getI (i := iTT) (k := 2) X (lt_TT ) (sh_TT ) rfl in_TT (by decide) wf_SM_79 rfl (fun _ => rfl) dX7_window_36 ?_
      refine v_bipush (v := 6) X dX7_window_39 (by decide) ?_
      refine v_icmp_ge X 48 dX7_window_41 (by decide) (fun h41 => ?_) (fun h41 => ?_)
      ·
        refine v_iconst (v := 0) X dX7_window_48 (by decide) ?_
        have e9 : (((if (σ iSM 2) = 0 then (if 6 ≤ (σ iTT 2) then 0 else 1) else 0) : Int32) : Int32) = 0 := by simp only [if_pos h29, if_pos h41]
        rw [e9] at J29
        exact J29
      ·
        refine v_iconst (v := 1) X dX7_window_44 (by decide) ?_
        refine v_goto (tgt := 49) X dX7_window_45 (by decide) ?_
        have e9 : (((if (σ iSM 2) = 0 then (if 6 ≤ (σ iTT 2) then 0 else 1) else 0) : Int32) : Int32) = 1 := by simp only [if_pos h29, if_neg h41]
        rw [e9] at J29
        exact J29
  refine v_callS_CFV (rest := []) X [.int ((if (σ iSM 2) = 0 then (if 6 ≤ (σ iTT 2) then 0 else 1) else 0) : Int32)] (c_SM_refuseNowUnless hlt ((if (σ iSM 2) = 0 then (if 6 ≤ (σ iTT 2) then 0 else 1) else 0) : Int32) σ ) mf_SM_refuseNowUnless ws_SM_refuseNowUnless wm_SM_48 rfl ⟨by decide, by decide⟩ (Nat.le_of_ble_eq_true rfl) ⟨by decide, by decide⟩ dX7_window_49 (fun h49 => ?_) (fun h49 => ?_)
  ·
    have e9 : f_SM_window xa xb σ = (f_SM_refuseNowUnless ((if (σ iSM 2) = 0 then (if 6 ≤ (σ iTT 2) then 0 else 1) else 0) : Int32), 0, σ) := by simp only [f_SM_window, if_pos h22, if_neg h49]
    exact hthr _ _ _ _ _ _ _ e9 h49 (by decide) (by decide)
  refine v_aload_n X 0 dX7_window_52 rfl rfl ?_
  refine v_getR (j := iTT) (i := iSM) (k := 1) X (lt_SM ) (sh_SM ) rfl in_SM (by decide) wf_SM_21 rfl (fun _ => rfl) dX7_window_53 ?_
  refine v_iload_n X 1 dX7_window_56 rfl rfl ?_
  refine v_iload_n X 2 dX7_window_57 rfl rfl ?_
  refine v_callV_CV (rest := []) X [.int xa, .int xb] (c_TT_append xa xb σ hI) mf_TT_append wi_TT_append wl_TT_append (lt_TT ) (sh_TT ) rfl wm_SM_80 rfl ⟨by decide, by decide⟩ (Nat.le_of_ble_eq_true rfl) ⟨by decide, by decide⟩ dX7_window_58 ?_
  generalize hg58 : (f_TT_append xa xb σ) = g58
  refine v_aload_n X 0 dX7_window_61 rfl rfl ?_
  refine v_getR (j := iTT) (i := iSM) (k := 1) X (lt_SM ) (sh_SM ) rfl in_SM (by decide) wf_SM_21 rfl (fun _ => rfl) dX7_window_62 ?_
  refine v_getI (i := iTT) (k := 2) X (lt_TT ) (sh_TT ) rfl in_TT (by decide) wf_SM_79 rfl (fun _ => rfl) dX7_window_65 ?_
  have e9 : f_SM_window xa xb σ = (0, (g58 iTT 2), g58) := by subst hg58; simp only [f_SM_window, if_pos h22, if_pos h49]
  exact hend _ _ _ _ _ _ e9 (by decide) (by decide) dX7_window_68
def f_SM_channel (xa : Int32) (xb : Int32) (xc : Int32) (xd : Int32) (σ : St) : Int32 × Int32 × St :=
  (if f_SM_refuseBadUnless ((if (f_SM_isChannel xa) = 0 then 0 else (if (f_SM_within xb (-1) 3) = 0 then 0 else (if (f_SM_within xc 0 15) = 0 then 0 else (if (f_SM_within xd 1 100) = 0 then 0 else 1)))) : Int32) = 0 then (if f_SM_refuseNowUnless ((if (σ iSM 2) = 0 then 1 else 0) : Int32) = 0 then (0, 0, (up (up (up σ (iC (xa).toNatClampNeg) 0 xb) (iC (xa).toNatClampNeg) 1 xc) (iC (xa).toNatClampNeg) 2 xd)) else (f_SM_refuseNowUnless ((if (σ iSM 2) = 0 then 1 else 0) : Int32), 0, σ)) else (f_SM_refuseBadUnless ((if (f_SM_isChannel xa) = 0 then 0 else (if (f_SM_within xb (-1) 3) = 0 then 0 else (if (f_SM_within xc 0 15) = 0 then 0 else (if (f_SM_within xd 1 100) = 0 then 0 else 1)))) : Int32), 0, σ))
set_option maxHeartbeats 4000000 in
set_option maxRecDepth 100000 in
theorem c_SM_channel (hlt : l.stackTraces = false) (xa : Int32) (xb : Int32) (xc : Int32) (xd : Int32) (σ : St) (hI : Ic σ) : CFV l D (tyL cA) rh (rcW rh cA) NW yX7_channel cX7_channel 6 7 3 18 [.ref (rh iSM), .int xa, .int xb, .int xc, .int xd] σ (f_SM_channel xa xb xc xd σ) := by
  refine CFV.of rfl (Nat.le_of_ble_eq_true rfl) hlt ?_
  intro p9 e s m args below meth c A Q X hend hthr hnew
  refine v_lv (lv' := [(0, .ref (rh iSM)), (1, .int xa), (2, .int xb), (3, .int xc), (4, .int xd)]) [0, 1, 2, 3, 4] rfl ?_
  refine v_iload_n X 1 dX7_channel_0 rfl rfl ?_
  refine v_callS_CI (rest := []) X [.int xa] (c_SM_isChannel xa σ ) mf_SM_isChannel ws_SM_isChannel wm_SM_84 rfl ⟨by decide, by decide⟩ (Nat.le_of_ble_eq_true rfl) ⟨by decide, by decide⟩ dX7_channel_1 ?_
  refine v_suff (pc2 := 42) (lv2 := [(0, .ref (rh iSM)), (1, .int xa), (2, .int xb), (3, .int xc), (4, .int xd)]) (st2 := [.int ((if (f_SM_isChannel xa) = 0 then 0 else (if (f_SM_within xb (-1) 3) = 0 then 0 else (if (f_SM_within xc 0 15) = 0 then 0 else (if (f_SM_within xd 1 100) = 0 then 0 else 1)))) : Int32)]) (σ2 := σ) ?_ (fun J4 => ?_)
  rotate_left
  ·
    refine v_if_eq X 41 dX7_channel_4 (by decide) (fun h4 => ?_) (fun h4 => ?_)
    ·
      refine v_iconst (v := 0) X dX7_channel_41 (by decide) ?_
      have e9 : (((if (f_SM_isChannel xa) = 0 then 0 else (if (f_SM_within xb (-1) 3) = 0 then 0 else (if (f_SM_within xc 0 15) = 0 then 0 else (if (f_SM_within xd 1 100) = 0 then 0 else 1)))) : Int32) : Int32) = 0 := by simp only [if_pos h4]
      rw [e9] at J4
      exact J4
    ·
      refine v_iload_n X 2 dX7_channel_7 rfl rfl ?_
      refine v_iconst (v := (-1)) X dX7_channel_8 (by decide) ?_
      refine v_iconst (v := 3) X dX7_channel_9 (by decide) ?_
      refine v_callS_CI (rest := []) X [.int xb, .int (-1), .int 3] (c_SM_within xb (-1) 3 σ ) mf_SM_within ws_SM_within wm_SM_40 rfl ⟨by decide, by decide⟩ (Nat.le_of_ble_eq_true rfl) ⟨by decide, by decide⟩ dX7_channel_10 ?_
      refine v_if_eq X 41 dX7_channel_13 (by decide) (fun h13 => ?_) (fun h13 => ?_)
      ·
        refine v_iconst (v := 0) X dX7_channel_41 (by decide) ?_
        have e9 : (((if (f_SM_isChannel xa) = 0 then 0 else (if (f_SM_within xb (-1) 3) = 0 then 0 else (if (f_SM_within xc 0 15) = 0 then 0 else (if (f_SM_within xd 1 100) = 0 then 0 else 1)))) : Int32) : Int32) = 0 := by simp only [if_neg h4, if_pos h13]
        rw [e9] at J4
        exact J4
      ·
        refine v_iload_n X 3 dX7_channel_16 rfl rfl ?_
        refine v_iconst (v := 0) X dX7_channel_17 (by decide) ?_
        refine v_bipush (v := 15) X dX7_channel_18 (by decide) ?_
        refine v_callS_CI (rest := []) X [.int xc, .int 0, .int 15] (c_SM_within xc 0 15 σ ) mf_SM_within ws_SM_within wm_SM_40 rfl ⟨by decide, by decide⟩ (Nat.le_of_ble_eq_true rfl) ⟨by decide, by decide⟩ dX7_channel_20 ?_
        refine v_if_eq X 41 dX7_channel_23 (by decide) (fun h23 => ?_) (fun h23 => ?_)
        ·
          refine v_iconst (v := 0) X dX7_channel_41 (by decide) ?_
          have e9 : (((if (f_SM_isChannel xa) = 0 then 0 else (if (f_SM_within xb (-1) 3) = 0 then 0 else (if (f_SM_within xc 0 15) = 0 then 0 else (if (f_SM_within xd 1 100) = 0 then 0 else 1)))) : Int32) : Int32) = 0 := by simp only [if_neg h4, if_neg h13, if_pos h23]
          rw [e9] at J4
          exact J4
        ·
          refine v_iload X 4 dX7_channel_26 rfl ?_
          refine v_iconst (v := 1) X dX7_channel_28 (by decide) ?_
          refine v_bipush (v := 100) X dX7_channel_29 (by decide) ?_
          refine v_callS_CI (rest := []) X [.int xd, .int 1, .int 100] (c_SM_within xd 1 100 σ ) mf_SM_within ws_SM_within wm_SM_40 rfl ⟨by decide, by decide⟩ (Nat.le_of_ble_eq_true rfl) ⟨by decide, by decide⟩ dX7_channel_31 ?_
          refine v_if_eq X 41 dX7_channel_34 (by decide) (fun h34 => ?_) (fun h34 => ?_)
          ·
            refine v_iconst (v := 0) X dX7_channel_41 (by decide) ?_
            have e9 : (((if (f_SM_isChannel xa) = 0 then 0 else (if (f_SM_within xb (-1) 3) = 0 then 0 else (if (f_SM_within xc 0 15) = 0 then 0 else (if (f_SM_within xd 1 100) = 0 then 0 else 1)))) : Int32) : Int32) = 0 := by simp only [if_neg h4, if_neg h13, if_neg h23, if_pos h34]
            rw [e9] at J4
            exact J4
          ·
            refine v_iconst (v := 1) X dX7_channel_37 (by decide) ?_
            refine v_goto (tgt := 42) X dX7_channel_38 (by decide) ?_
            have e9 : (((if (f_SM_isChannel xa) = 0 then 0 else (if (f_SM_within xb (-1) 3) = 0 then 0 else (if (f_SM_within xc 0 15) = 0 then 0 else (if (f_SM_within xd 1 100) = 0 then 0 else 1)))) : Int32) : Int32) = 1 := by simp only [if_neg h4, if_neg h13, if_neg h23, if_neg h34]
            rw [e9] at J4
            exact J4
  refine v_callS_CFV (rest := []) X [.int ((if (f_SM_isChannel xa) = 0 then 0 else (if (f_SM_within xb (-1) 3) = 0 then 0 else (if (f_SM_within xc 0 15) = 0 then 0 else (if (f_SM_within xd 1 100) = 0 then 0 else 1)))) : Int32)] (c_SM_refuseBadUnless hlt ((if (f_SM_isChannel xa) = 0 then 0 else (if (f_SM_within xb (-1) 3) = 0 then 0 else (if (f_SM_within xc 0 15) = 0 then 0 else (if (f_SM_within xd 1 100) = 0 then 0 else 1)))) : Int32) σ ) mf_SM_refuseBadUnless ws_SM_refuseBadUnless wm_SM_44 rfl ⟨by decide, by decide⟩ (Nat.le_of_ble_eq_true rfl) ⟨by decide, by decide⟩ dX7_channel_42 (fun h42 => ?_) (fun h42 => ?_)
  ·
    have e9 : f_SM_channel xa xb xc xd σ = (f_SM_refuseBadUnless ((if (f_SM_isChannel xa) = 0 then 0 else (if (f_SM_within xb (-1) 3) = 0 then 0 else (if (f_SM_within xc 0 15) = 0 then 0 else (if (f_SM_within xd 1 100) = 0 then 0 else 1)))) : Int32), 0, σ) := by simp only [f_SM_channel, if_neg h42]
    exact hthr _ _ _ _ _ _ _ e9 h42 (by decide) (by decide)
  refine v_aload_n X 0 dX7_channel_45 rfl rfl ?_
  refine v_getI (i := iSM) (k := 2) X (lt_SM ) (sh_SM ) rfl in_SM (by decide) wf_SM_25 rfl (fun _ => rfl) dX7_channel_46 ?_
  refine v_suff (pc2 := 57) (lv2 := [(0, .ref (rh iSM)), (1, .int xa), (2, .int xb), (3, .int xc), (4, .int xd)]) (st2 := [.int ((if (σ iSM 2) = 0 then 1 else 0) : Int32)]) (σ2 := σ) ?_ (fun J49 => ?_)
  rotate_left
  ·
    refine v_if_ne X 56 dX7_channel_49 (by decide) (fun h49 => ?_) (fun h49 => ?_)
    ·
      refine v_iconst (v := 0) X dX7_channel_56 (by decide) ?_
      have e9 : (((if (σ iSM 2) = 0 then 1 else 0) : Int32) : Int32) = 0 := by simp only [if_neg h49]
      rw [e9] at J49
      exact J49
    ·
      refine v_iconst (v := 1) X dX7_channel_52 (by decide) ?_
      refine v_goto (tgt := 57) X dX7_channel_53 (by decide) ?_
      have e9 : (((if (σ iSM 2) = 0 then 1 else 0) : Int32) : Int32) = 1 := by simp only [if_pos h49]
      rw [e9] at J49
      exact J49
  refine v_callS_CFV (rest := []) X [.int ((if (σ iSM 2) = 0 then 1 else 0) : Int32)] (c_SM_refuseNowUnless hlt ((if (σ iSM 2) = 0 then 1 else 0) : Int32) σ ) mf_SM_refuseNowUnless ws_SM_refuseNowUnless wm_SM_48 rfl ⟨by decide, by decide⟩ (Nat.le_of_ble_eq_true rfl) ⟨by decide, by decide⟩ dX7_channel_57 (fun h57 => ?_) (fun h57 => ?_)
  ·
    have e9 : f_SM_channel xa xb xc xd σ = (f_SM_refuseNowUnless ((if (σ iSM 2) = 0 then 1 else 0) : Int32), 0, σ) := by simp only [f_SM_channel, if_pos h42, if_neg h57]
    exact hthr _ _ _ _ _ _ _ e9 h57 (by decide) (by decide)
  refine v_aload_n X 0 dX7_channel_60 rfl rfl ?_
  refine v_getR (j := iMA) (i := iSM) (k := 0) X (lt_SM ) (sh_SM ) rfl in_SM (by decide) wf_SM_12 rfl (fun _ => rfl) dX7_channel_61 ?_
  refine v_getR (j := iAC) (i := iMA) (k := 3) X (lt_MA ) (sh_MA ) rfl in_MA (by decide) wf_SM_87 rfl (fun _ => rfl) dX7_channel_64 ?_
  refine v_iload_n X 1 dX7_channel_67 rfl rfl ?_
  have hv68 : vp_in xa 4 := (ch_in (ifnz (rb_nz h42)))
  refine v_aald (i := iAC) (t0 := 2) (g := iC) X (lt_ACH ) (sh_ACH ) rfl hv68 dX7_channel_68 ?_
  refine v_astore (lv' := [(5, .ref (rh (iC (xa).toNatClampNeg))), (0, .ref (rh iSM)), (1, .int xa), (2, .int xb), (3, .int xc), (4, .int xd)]) X dX7_channel_69 (by decide) rfl ?_
  refine v_aload X 0 dX7_channel_71 rfl ?_
  refine v_iload_n X 3 dX7_channel_73 rfl rfl ?_
  refine v_put (i := (iC (xa).toNatClampNeg)) (k := 0) (x := xb) (ty := .int) X (lt_CH (vin_lt hv68)) (sh_CH (vin_lt hv68)) rfl in_CH (by decide) tyX0 tyX0_ok nX0 wf_SM_91 rfl rfl rfl rfl rfl (fun _ => Nat.le_of_ble_eq_true rfl) (fun _ _ => rfl) dX7_channel_74 ?_
  generalize hg74 : (up σ (iC (xa).toNatClampNeg) 0 xb) = g74
  have hI74 : Ic g74 := by rw [← hg74]; exact (Ic.upCH hI)
  refine v_aload X 0 dX7_channel_77 rfl ?_
  refine v_iload_n X 4 dX7_channel_79 rfl rfl ?_
  refine v_put (i := (iC (xa).toNatClampNeg)) (k := 1) (x := xc) (ty := .int) X (lt_CH (vin_lt hv68)) (sh_CH (vin_lt hv68)) rfl in_CH (by decide) tyX0 tyX0_ok nX0 wf_SM_96 rfl rfl rfl rfl rfl (fun _ => Nat.le_of_ble_eq_true rfl) (fun _ _ => rfl) dX7_channel_80 ?_
  generalize hg80 : (up g74 (iC (xa).toNatClampNeg) 1 xc) = g80
  have hI80 : Ic g80 := by rw [← hg80]; exact (Ic.upCH hI74)
  refine v_aload X 0 dX7_channel_83 rfl ?_
  refine v_iload X 5 dX7_channel_85 rfl ?_
  refine v_put (i := (iC (xa).toNatClampNeg)) (k := 2) (x := xd) (ty := .int) X (lt_CH (vin_lt hv68)) (sh_CH (vin_lt hv68)) rfl in_CH (by decide) tyX0 tyX0_ok nX0 wf_SM_99 rfl rfl rfl rfl rfl (fun _ => Nat.le_of_ble_eq_true rfl) (fun _ _ => rfl) dX7_channel_87 ?_
  generalize hg87 : (up g80 (iC (xa).toNatClampNeg) 2 xd) = g87
  have hI87 : Ic g87 := by rw [← hg87]; exact (Ic.upCH hI80)
  have e9 : f_SM_channel xa xb xc xd σ = (0, 0, g87) := by subst hg74; subst hg80; subst hg87; simp only [f_SM_channel, if_pos h42, if_pos h57]
  exact hend _ _ _ _ _ e9 (by decide) (by decide) dX7_channel_90
def f_SM_boot (σ : St) : Int32 × Int32 × St :=
  (if f_SM_refuseNowUnless ((if (σ iSM 2) = 0 then (if (σ iTT 2) ≤ 0 then 0 else 1) else 0) : Int32) = 0 then (0, ((up (up (f_TT_start (up (f_MA_start σ).2 iSM 4 (f_MA_start σ).1)) iSM 2 1) iSM 3 (((up (f_TT_start (up (f_MA_start σ).2 iSM 4 (f_MA_start σ).1)) iSM 2 1) iSM 3) + 1)) iSM 4), (up (up (f_TT_start (up (f_MA_start σ).2 iSM 4 (f_MA_start σ).1)) iSM 2 1) iSM 3 (((up (f_TT_start (up (f_MA_start σ).2 iSM 4 (f_MA_start σ).1)) iSM 2 1) iSM 3) + 1))) else (f_SM_refuseNowUnless ((if (σ iSM 2) = 0 then (if (σ iTT 2) ≤ 0 then 0 else 1) else 0) : Int32), 0, σ))
set_option maxHeartbeats 4000000 in
set_option maxRecDepth 100000 in
theorem c_SM_boot (hlt : l.stackTraces = false)  (σ : St) (hI : Ic σ) : CFI l D (tyL cA) rh (rcW rh cA) NW yX7_boot cX7_boot 1 7 3 18 [.ref (rh iSM)] σ (f_SM_boot σ) := by
  refine CFI.of rfl (Nat.le_of_ble_eq_true rfl) hlt ?_
  intro p9 e s m args below meth c A Q X hend hthr hnew
  refine v_lv (lv' := [(0, .ref (rh iSM))]) [0] rfl ?_
  refine v_aload_n X 0 dX7_boot_0 rfl rfl ?_
  refine v_getI (i := iSM) (k := 2) X (lt_SM ) (sh_SM ) rfl in_SM (by decide) wf_SM_25 rfl (fun _ => rfl) dX7_boot_1 ?_
  refine v_suff (pc2 := 22) (lv2 := [(0, .ref (rh iSM))]) (st2 := [.int ((if (σ iSM 2) = 0 then (if (σ iTT 2) ≤ 0 then 0 else 1) else 0) : Int32)]) (σ2 := σ) ?_ (fun J4 => ?_)
  rotate_left
  ·
    refine v_if_ne X 21 dX7_boot_4 (by decide) (fun h4 => ?_) (fun h4 => ?_)
    ·
      refine v_iconst (v := 0) X dX7_boot_21 (by decide) ?_
      have e9 : (((if (σ iSM 2) = 0 then (if (σ iTT 2) ≤ 0 then 0 else 1) else 0) : Int32) : Int32) = 0 := by simp only [if_neg h4]
      rw [e9] at J4
      exact J4
    ·
      refine v_aload_n X 0 dX7_boot_7 rfl rfl ?_
      refine v_getR (j := iTT) (i := iSM) (k := 1) X (lt_SM ) (sh_SM ) rfl in_SM (by decide) wf_SM_21 rfl (fun _ => rfl) dX7_boot_8 ?_
      refine v_getI (i := iTT) (k := 2) X (lt_TT ) (sh_TT ) rfl in_TT (by decide) wf_SM_79 rfl (fun _ => rfl) dX7_boot_11 ?_
      refine v_if_le X 21 dX7_boot_14 (by decide) (fun h14 => ?_) (fun h14 => ?_)
      ·
        refine v_iconst (v := 0) X dX7_boot_21 (by decide) ?_
        have e9 : (((if (σ iSM 2) = 0 then (if (σ iTT 2) ≤ 0 then 0 else 1) else 0) : Int32) : Int32) = 0 := by simp only [if_pos h4, if_pos h14]
        rw [e9] at J4
        exact J4
      ·
        refine v_iconst (v := 1) X dX7_boot_17 (by decide) ?_
        refine v_goto (tgt := 22) X dX7_boot_18 (by decide) ?_
        have e9 : (((if (σ iSM 2) = 0 then (if (σ iTT 2) ≤ 0 then 0 else 1) else 0) : Int32) : Int32) = 1 := by simp only [if_pos h4, if_neg h14]
        rw [e9] at J4
        exact J4
  refine v_callS_CFV (rest := []) X [.int ((if (σ iSM 2) = 0 then (if (σ iTT 2) ≤ 0 then 0 else 1) else 0) : Int32)] (c_SM_refuseNowUnless hlt ((if (σ iSM 2) = 0 then (if (σ iTT 2) ≤ 0 then 0 else 1) else 0) : Int32) σ ) mf_SM_refuseNowUnless ws_SM_refuseNowUnless wm_SM_48 rfl ⟨by decide, by decide⟩ (Nat.le_of_ble_eq_true rfl) ⟨by decide, by decide⟩ dX7_boot_22 (fun h22 => ?_) (fun h22 => ?_)
  ·
    have e9 : f_SM_boot σ = (f_SM_refuseNowUnless ((if (σ iSM 2) = 0 then (if (σ iTT 2) ≤ 0 then 0 else 1) else 0) : Int32), 0, σ) := by simp only [f_SM_boot, if_neg h22]
    exact hthr _ _ _ _ _ _ _ e9 h22 (by decide) (by decide)
  refine v_aload_n X 0 dX7_boot_25 rfl rfl ?_
  refine v_aload_n X 0 dX7_boot_26 rfl rfl ?_
  refine v_getR (j := iMA) (i := iSM) (k := 0) X (lt_SM ) (sh_SM ) rfl in_SM (by decide) wf_SM_12 rfl (fun _ => rfl) dX7_boot_27 ?_
  refine v_callV_CI (rest := [.ref (rh iSM)]) X [] (c_MA_start σ hI) mf_MA_start wi_MA_start wl_MA_start (lt_MA ) (sh_MA ) rfl wm_SM_102 rfl ⟨by decide, by decide⟩ (Nat.le_of_ble_eq_true rfl) ⟨by decide, by decide⟩ dX7_boot_30 ?_
  generalize hg30 : (f_MA_start σ) = g30
  have hI30 : Ic g30.2 := by rw [← hg30]; exact (I_MA_start  hI)
  refine v_put (i := iSM) (k := 4) (x := g30.1) (ty := .int) X (lt_SM ) (sh_SM ) rfl in_SM (by decide) tyX7 tyX7_ok nX7 wf_SM_33 rfl rfl rfl rfl rfl (fun _ => Nat.le_of_ble_eq_true rfl) (fun _ _ => rfl) dX7_boot_33 ?_
  generalize hg33 : (up g30.2 iSM 4 g30.1) = g33
  have hI33 : Ic g33 := by rw [← hg33]; exact (Ic.upSM hI30)
  refine v_aload_n X 0 dX7_boot_36 rfl rfl ?_
  refine v_getR (j := iTT) (i := iSM) (k := 1) X (lt_SM ) (sh_SM ) rfl in_SM (by decide) wf_SM_21 rfl (fun _ => rfl) dX7_boot_37 ?_
  refine v_callV_CV (rest := []) X [] (c_TT_start g33 ) mf_TT_start wi_TT_start wl_TT_start (lt_TT ) (sh_TT ) rfl wm_SM_106 rfl ⟨by decide, by decide⟩ (Nat.le_of_ble_eq_true rfl) ⟨by decide, by decide⟩ dX7_boot_40 ?_
  generalize hg40 : (f_TT_start g33) = g40
  have hI40 : Ic g40 := by rw [← hg40]; exact (I_TT_start  hI33)
  refine v_aload_n X 0 dX7_boot_43 rfl rfl ?_
  refine v_iconst (v := 1) X dX7_boot_44 (by decide) ?_
  refine v_put (i := iSM) (k := 2) (x := 1) (ty := .boolean) X (lt_SM ) (sh_SM ) rfl in_SM (by decide) tyX7 tyX7_ok nX7 wf_SM_25 rfl rfl rfl (zN (Or.inr rfl)) (zF (Or.inr rfl)) (fun _ => Nat.le_of_ble_eq_true rfl) (fun _ _ => rfl) dX7_boot_45 ?_
  generalize hg45 : (up g40 iSM 2 1) = g45
  have hI45 : Ic g45 := by rw [← hg45]; exact (Ic.upSM hI40)
  refine v_aload_n X 0 dX7_boot_48 rfl rfl ?_
  refine v_dup X dX7_boot_49 rfl ?_
  refine v_getI (i := iSM) (k := 3) X (lt_SM ) (sh_SM ) rfl in_SM (by decide) wf_SM_29 rfl (fun _ => rfl) dX7_boot_50 ?_
  refine v_iconst (v := 1) X dX7_boot_53 (by decide) ?_
  refine v_iadd X dX7_boot_54 ?_
  refine v_put (i := iSM) (k := 3) (x := ((g45 iSM 3) + 1)) (ty := .int) X (lt_SM ) (sh_SM ) rfl in_SM (by decide) tyX7 tyX7_ok nX7 wf_SM_29 rfl rfl rfl rfl rfl (fun _ => Nat.le_of_ble_eq_true rfl) (fun _ _ => rfl) dX7_boot_55 ?_
  generalize hg55 : (up g45 iSM 3 ((g45 iSM 3) + 1)) = g55
  have hI55 : Ic g55 := by rw [← hg55]; exact (Ic.upSM hI45)
  refine v_aload_n X 0 dX7_boot_58 rfl rfl ?_
  refine v_getI (i := iSM) (k := 4) X (lt_SM ) (sh_SM ) rfl in_SM (by decide) wf_SM_33 rfl (fun _ => rfl) dX7_boot_59 ?_
  have e9 : f_SM_boot σ = (0, (g55 iSM 4), g55) := by subst hg30; subst hg33; subst hg40; subst hg45; subst hg55; simp only [f_SM_boot, if_pos h22]
  exact hend _ _ _ _ _ _ e9 (by decide) (by decide) dX7_boot_62
def f_SM_reset (σ : St) : Int32 × Int32 × St :=
  (if f_SM_refuseNowUnless (σ iSM 2) = 0 then (0, 0, (up σ iSM 2 0)) else (f_SM_refuseNowUnless (σ iSM 2), 0, σ))
set_option maxHeartbeats 4000000 in
set_option maxRecDepth 100000 in
theorem c_SM_reset (hlt : l.stackTraces = false)  (σ : St) (hI : Ic σ) : CFV l D (tyL cA) rh (rcW rh cA) NW yX7_reset cX7_reset 1 7 3 18 [.ref (rh iSM)] σ (f_SM_reset σ) := by
  refine CFV.of rfl (Nat.le_of_ble_eq_true rfl) hlt ?_
  intro p9 e s m args below meth c A Q X hend hthr hnew
  refine v_lv (lv' := [(0, .ref (rh iSM))]) [0] rfl ?_
  refine v_aload_n X 0 dX7_reset_0 rfl rfl ?_
  refine v_getI (i := iSM) (k := 2) X (lt_SM ) (sh_SM ) rfl in_SM (by decide) wf_SM_25 rfl (fun _ => rfl) dX7_reset_1 ?_
  refine v_callS_CFV (rest := []) X [.int (σ iSM 2)] (c_SM_refuseNowUnless hlt (σ iSM 2) σ ) mf_SM_refuseNowUnless ws_SM_refuseNowUnless wm_SM_48 rfl ⟨by decide, by decide⟩ (Nat.le_of_ble_eq_true rfl) ⟨by decide, by decide⟩ dX7_reset_4 (fun h4 => ?_) (fun h4 => ?_)
  ·
    have e9 : f_SM_reset σ = (f_SM_refuseNowUnless (σ iSM 2), 0, σ) := by simp only [f_SM_reset, if_neg h4]
    exact hthr _ _ _ _ _ _ _ e9 h4 (by decide) (by decide)
  refine v_aload_n X 0 dX7_reset_7 rfl rfl ?_
  refine v_iconst (v := 0) X dX7_reset_8 (by decide) ?_
  refine v_put (i := iSM) (k := 2) (x := 0) (ty := .boolean) X (lt_SM ) (sh_SM ) rfl in_SM (by decide) tyX7 tyX7_ok nX7 wf_SM_25 rfl rfl rfl (zN (Or.inl rfl)) (zF (Or.inl rfl)) (fun _ => Nat.le_of_ble_eq_true rfl) (fun _ _ => rfl) dX7_reset_9 ?_
  generalize hg9 : (up σ iSM 2 0) = g9
  have hI9 : Ic g9 := by rw [← hg9]; exact (Ic.upSM hI)
  have e9 : f_SM_reset σ = (0, 0, g9) := by subst hg9; simp only [f_SM_reset, if_pos h4]
  exact hend _ _ _ _ _ e9 (by decide) (by decide) dX7_reset_12
def lp_SM_run_22 (xa : Int32) : Nat → Int32 → Int32 → St → Int32 × Int32 × St
  | 0, _, _, σ => (0, 0, σ)
  | k9 + 1, b2, i3, σ => (if xa ≤ i3 then (0, b2, σ) else (if (f_SM_tick σ).1 = 0 then (lp_SM_run_22 xa k9 b2 (i3 + 1) (f_SM_tick σ).2) else (lp_SM_run_22 xa k9 (b2 + 1) (i3 + 1) (f_SM_tick σ).2)))
set_option maxHeartbeats 4000000 in
set_option maxRecDepth 100000 in
theorem lc_SM_run_22 (xa : Int32) {p9 : Program} {e : Env} {s : State} {m : MethodId} {args : Array Value} {below : List Frame} {meth : Method} {c : Code} {A : Nat → Prop} {Q : State → Prop} (X : Cx p9 s m args meth c D (tyL cA) A cX7_run 4 yX7_run.cls) : ∀ (k9 : Nat) (b2 : Int32) (i3 : Int32) (σ : St), (hI : Ic σ) → (hi : 0 ≤ i3.toInt ∧ i3.toInt ≤ xa.toInt) → (xa.toInt - i3.toInt < (k9 : Int)) → (∀ (pc : Nat) (lv : List (Nat × Value)) (cells slots : Nat) (x : Int32) (s' : St), lp_SM_run_22 xa k9 b2 i3 σ = (0, x, s') → cells ≤ 3 → slots ≤ 18 → decode cX7_run pc = .ok (.ireturn, 1) → Vz p9 l e (Rq 7 3 18) s m args below meth c D A 4 rh (rcW rh cA) NW cells slots Q pc lv [.int x] s') → Vz p9 l e (Rq 7 3 18) s m args below meth c D A 4 rh (rcW rh cA) NW (0 + 1 + 1) (0 + 6 + 6) Q 22 [(0, .ref (rh iSM)), (1, .int xa), (2, .int b2), (3, .int i3)] [] σ := by
  intro k9
  induction k9 with
  | zero =>
    intro b2 i3 σ hI hi hmu hend
    exact absurd hmu (by omega)
  | succ k9 ih =>
    intro b2 i3 σ hI hi hmu hend
    refine v_iload_n X 3 dX7_run_22 rfl rfl ?_
    refine v_iload_n X 1 dX7_run_23 rfl rfl ?_
    refine v_icmp_ge X 43 dX7_run_24 (by decide) (fun h24 => ?_) (fun h24 => ?_)
    ·
      refine v_iload_n X 2 dX7_run_43 rfl rfl ?_
      have e9 : lp_SM_run_22 xa (k9 + 1) b2 i3 σ = (0, b2, σ) := by simp only [lp_SM_run_22, if_pos h24]
      exact hend _ _ _ _ _ _ e9 (by decide) (by decide) dX7_run_44
    ·
      refine v_aload_n X 0 dX7_run_27 rfl rfl ?_
      refine v_callV_CI (rest := []) X [] (c_SM_tick σ hI) mf_SM_tick wi_SM_tick wl_SM_tick (lt_SM ) (sh_SM ) rfl wm_SM_108 rfl ⟨by decide, by decide⟩ (Nat.le_of_ble_eq_true rfl) ⟨by decide, by decide⟩ dX7_run_28 ?_
      generalize hg28 : (f_SM_tick σ) = g28
      have hI28 : Ic g28.2 := by rw [← hg28]; exact (I_SM_tick  hI)
      refine v_if_eq X 37 dX7_run_31 (by decide) (fun h31 => ?_) (fun h31 => ?_)
      ·
        refine v_iinc (v := (i3 + 1)) (lv' := [(3, .int (i3 + 1)), (0, .ref (rh iSM)), (1, .int xa), (2, .int b2)]) X 3 dX7_run_37 rfl rfl (by decide) rfl ?_
        refine v_goto (tgt := 22) X dX7_run_40 (by decide) ?_
        have e9 : lp_SM_run_22 xa (k9 + 1) b2 i3 σ = lp_SM_run_22 xa k9 b2 (i3 + 1) g28.2 := by subst hg28; simp only [lp_SM_run_22, if_neg h24, if_pos h31]
        rw [e9] at hend
        refine v_lv (lv' := [(0, .ref (rh iSM)), (1, .int xa), (2, .int b2), (3, .int (i3 + 1))]) [1, 2, 3, 0] rfl ?_
        exact ih b2 (i3 + 1) g28.2 hI28 ⟨by have h9 := i_succ h24; omega, by have h9 := i_succ h24; have h8 := h24; rw [ile] at h8; omega⟩ (by have h9 := i_succ h24; omega) hend
      ·
        refine v_iinc (v := (b2 + 1)) (lv' := [(2, .int (b2 + 1)), (0, .ref (rh iSM)), (1, .int xa), (3, .int i3)]) X 2 dX7_run_34 rfl rfl (by decide) rfl ?_
        refine v_iinc (v := (i3 + 1)) (lv' := [(3, .int (i3 + 1)), (2, .int (b2 + 1)), (0, .ref (rh iSM)), (1, .int xa)]) X 3 dX7_run_37 rfl rfl (by decide) rfl ?_
        refine v_goto (tgt := 22) X dX7_run_40 (by decide) ?_
        have e9 : lp_SM_run_22 xa (k9 + 1) b2 i3 σ = lp_SM_run_22 xa k9 (b2 + 1) (i3 + 1) g28.2 := by subst hg28; simp only [lp_SM_run_22, if_neg h24, if_neg h31]
        rw [e9] at hend
        refine v_lv (lv' := [(0, .ref (rh iSM)), (1, .int xa), (2, .int (b2 + 1)), (3, .int (i3 + 1))]) [2, 3, 1, 0] rfl ?_
        exact ih (b2 + 1) (i3 + 1) g28.2 hI28 ⟨by have h9 := i_succ h24; omega, by have h9 := i_succ h24; have h8 := h24; rw [ile] at h8; omega⟩ (by have h9 := i_succ h24; omega) hend
def f_SM_run (xa : Int32) (σ : St) : Int32 × Int32 × St :=
  (if f_SM_refuseBadUnless (f_SM_within xa 1 400) = 0 then (if f_SM_refuseNowUnless (σ iSM 2) = 0 then (lp_SM_run_22 xa 401 0 0 σ) else (f_SM_refuseNowUnless (σ iSM 2), 0, σ)) else (f_SM_refuseBadUnless (f_SM_within xa 1 400), 0, σ))
set_option maxHeartbeats 4000000 in
set_option maxRecDepth 100000 in
theorem c_SM_run (hlt : l.stackTraces = false) (xa : Int32) (σ : St) (hI : Ic σ) : CFI l D (tyL cA) rh (rcW rh cA) NW yX7_run cX7_run 4 7 3 18 [.ref (rh iSM), .int xa] σ (f_SM_run xa σ) := by
  refine CFI.of rfl (Nat.le_of_ble_eq_true rfl) hlt ?_
  intro p9 e s m args below meth c A Q X hend hthr hnew
  refine v_lv (lv' := [(0, .ref (rh iSM)), (1, .int xa)]) [0, 1] rfl ?_
  refine v_iload_n X 1 dX7_run_0 rfl rfl ?_
  refine v_iconst (v := 1) X dX7_run_1 (by decide) ?_
  refine v_sipush (v := 400) X dX7_run_2 (by decide) ?_
  refine v_callS_CI (rest := []) X [.int xa, .int 1, .int 400] (c_SM_within xa 1 400 σ ) mf_SM_within ws_SM_within wm_SM_40 rfl ⟨by decide, by decide⟩ (Nat.le_of_ble_eq_true rfl) ⟨by decide, by decide⟩ dX7_run_5 ?_
  refine v_callS_CFV (rest := []) X [.int (f_SM_within xa 1 400)] (c_SM_refuseBadUnless hlt (f_SM_within xa 1 400) σ ) mf_SM_refuseBadUnless ws_SM_refuseBadUnless wm_SM_44 rfl ⟨by decide, by decide⟩ (Nat.le_of_ble_eq_true rfl) ⟨by decide, by decide⟩ dX7_run_8 (fun h8 => ?_) (fun h8 => ?_)
  ·
    have e9 : f_SM_run xa σ = (f_SM_refuseBadUnless (f_SM_within xa 1 400), 0, σ) := by simp only [f_SM_run, if_neg h8]
    exact hthr _ _ _ _ _ _ _ e9 h8 (by decide) (by decide)
  refine v_aload_n X 0 dX7_run_11 rfl rfl ?_
  refine v_getI (i := iSM) (k := 2) X (lt_SM ) (sh_SM ) rfl in_SM (by decide) wf_SM_25 rfl (fun _ => rfl) dX7_run_12 ?_
  refine v_callS_CFV (rest := []) X [.int (σ iSM 2)] (c_SM_refuseNowUnless hlt (σ iSM 2) σ ) mf_SM_refuseNowUnless ws_SM_refuseNowUnless wm_SM_48 rfl ⟨by decide, by decide⟩ (Nat.le_of_ble_eq_true rfl) ⟨by decide, by decide⟩ dX7_run_15 (fun h15 => ?_) (fun h15 => ?_)
  ·
    have e9 : f_SM_run xa σ = (f_SM_refuseNowUnless (σ iSM 2), 0, σ) := by simp only [f_SM_run, if_pos h8, if_neg h15]
    exact hthr _ _ _ _ _ _ _ e9 h15 (by decide) (by decide)
  refine v_iconst (v := 0) X dX7_run_18 (by decide) ?_
  refine v_istore_n (lv' := [(2, .int 0), (0, .ref (rh iSM)), (1, .int xa)]) X dX7_run_19 rfl (by decide) rfl ?_
  refine v_iconst (v := 0) X dX7_run_20 (by decide) ?_
  refine v_istore_n (lv' := [(3, .int 0), (2, .int 0), (0, .ref (rh iSM)), (1, .int xa)]) X dX7_run_21 rfl (by decide) rfl ?_
  have e9 : f_SM_run xa σ = lp_SM_run_22 xa 401 0 0 σ := by simp only [f_SM_run, if_pos h8, if_pos h15]
  rw [e9] at hend
  refine v_lv (lv' := [(0, .ref (rh iSM)), (1, .int xa), (2, .int 0), (3, .int 0)]) [2, 3, 1, 0] rfl ?_
  exact lc_SM_run_22 xa  X 401 0 0 σ hI ⟨by decide, by have h9 := (run_b h8).1; rw [t0i]; omega⟩ (by have h9 := (run_b h8).2; rw [t0i]; omega) hend
def f_SM_quote (xa : Int32) (σ : St) : Int32 × Int32 × St :=
  (if f_SM_refuseNowUnless (σ iSM 2) = 0 then (0, (f_SM_mix (f_SM_mix (σ iMA 0) xa) (σ iSM 4)), σ) else (f_SM_refuseNowUnless (σ iSM 2), 0, σ))
set_option maxHeartbeats 4000000 in
set_option maxRecDepth 100000 in
theorem c_SM_quote (hlt : l.stackTraces = false) (xa : Int32) (σ : St) (hI : Ic σ) : CFI l D (tyL cA) rh (rcW rh cA) NW yX7_quote cX7_quote 2 7 3 18 [.ref (rh iSM), .int xa] σ (f_SM_quote xa σ) := by
  refine CFI.of rfl (Nat.le_of_ble_eq_true rfl) hlt ?_
  intro p9 e s m args below meth c A Q X hend hthr hnew
  refine v_lv (lv' := [(0, .ref (rh iSM)), (1, .int xa)]) [0, 1] rfl ?_
  refine v_aload_n X 0 dX7_quote_0 rfl rfl ?_
  refine v_getI (i := iSM) (k := 2) X (lt_SM ) (sh_SM ) rfl in_SM (by decide) wf_SM_25 rfl (fun _ => rfl) dX7_quote_1 ?_
  refine v_callS_CFV (rest := []) X [.int (σ iSM 2)] (c_SM_refuseNowUnless hlt (σ iSM 2) σ ) mf_SM_refuseNowUnless ws_SM_refuseNowUnless wm_SM_48 rfl ⟨by decide, by decide⟩ (Nat.le_of_ble_eq_true rfl) ⟨by decide, by decide⟩ dX7_quote_4 (fun h4 => ?_) (fun h4 => ?_)
  ·
    have e9 : f_SM_quote xa σ = (f_SM_refuseNowUnless (σ iSM 2), 0, σ) := by simp only [f_SM_quote, if_neg h4]
    exact hthr _ _ _ _ _ _ _ e9 h4 (by decide) (by decide)
  refine v_aload_n X 0 dX7_quote_7 rfl rfl ?_
  refine v_getR (j := iMA) (i := iSM) (k := 0) X (lt_SM ) (sh_SM ) rfl in_SM (by decide) wf_SM_12 rfl (fun _ => rfl) dX7_quote_8 ?_
  refine v_getI (i := iMA) (k := 0) X (lt_MA ) (sh_MA ) rfl in_MA (by decide) wf_SM_112 rfl (fun _ => rfl) dX7_quote_11 ?_
  refine v_iload_n X 1 dX7_quote_14 rfl rfl ?_
  refine v_callS_CI (rest := []) X [.int (σ iMA 0), .int xa] (c_SM_mix (σ iMA 0) xa σ ) mf_SM_mix ws_SM_mix wm_SM_115 rfl ⟨by decide, by decide⟩ (Nat.le_of_ble_eq_true rfl) ⟨by decide, by decide⟩ dX7_quote_15 ?_
  refine v_aload_n X 0 dX7_quote_18 rfl rfl ?_
  refine v_getI (i := iSM) (k := 4) X (lt_SM ) (sh_SM ) rfl in_SM (by decide) wf_SM_33 rfl (fun _ => rfl) dX7_quote_19 ?_
  refine v_callS_CI (rest := []) X [.int (f_SM_mix (σ iMA 0) xa), .int (σ iSM 4)] (c_SM_mix (f_SM_mix (σ iMA 0) xa) (σ iSM 4) σ ) mf_SM_mix ws_SM_mix wm_SM_115 rfl ⟨by decide, by decide⟩ (Nat.le_of_ble_eq_true rfl) ⟨by decide, by decide⟩ dX7_quote_22 ?_
  have e9 : f_SM_quote xa σ = (0, (f_SM_mix (f_SM_mix (σ iMA 0) xa) (σ iSM 4)), σ) := by simp only [f_SM_quote, if_pos h4]
  exact hend _ _ _ _ _ _ e9 (by decide) (by decide) dX7_quote_25
def f_SM_register (xa : Int32) (xb : Int32) (σ : St) : Int32 × Int32 × St :=
  (if f_SM_refuseBadUnless ((if (f_SM_isPartition xa) = 0 then 0 else (if (f_SM_within xb 0 16) = 0 then 0 else 1)) : Int32) = 0 then (if f_SM_refuseNowUnless (σ iSM 2) = 0 then (0, ((if xb = 16 then (σ (iP (xa).toNatClampNeg) 5) else (f_PT_get (xa).toNatClampNeg xb σ)) : Int32), σ) else (f_SM_refuseNowUnless (σ iSM 2), 0, σ)) else (f_SM_refuseBadUnless ((if (f_SM_isPartition xa) = 0 then 0 else (if (f_SM_within xb 0 16) = 0 then 0 else 1)) : Int32), 0, σ))
set_option maxHeartbeats 4000000 in
set_option maxRecDepth 100000 in
theorem c_SM_register (hlt : l.stackTraces = false) (xa : Int32) (xb : Int32) (σ : St) (hI : Ic σ) : CFI l D (tyL cA) rh (rcW rh cA) NW yX7_register cX7_register 4 7 3 18 [.ref (rh iSM), .int xa, .int xb] σ (f_SM_register xa xb σ) := by
  refine CFI.of rfl (Nat.le_of_ble_eq_true rfl) hlt ?_
  intro p9 e s m args below meth c A Q X hend hthr hnew
  refine v_lv (lv' := [(0, .ref (rh iSM)), (1, .int xa), (2, .int xb)]) [0, 1, 2] rfl ?_
  refine v_iload_n X 1 dX7_register_0 rfl rfl ?_
  refine v_callS_CI (rest := []) X [.int xa] (c_SM_isPartition xa σ ) mf_SM_isPartition ws_SM_isPartition wm_SM_36 rfl ⟨by decide, by decide⟩ (Nat.le_of_ble_eq_true rfl) ⟨by decide, by decide⟩ dX7_register_1 ?_
  refine v_suff (pc2 := 22) (lv2 := [(0, .ref (rh iSM)), (1, .int xa), (2, .int xb)]) (st2 := [.int ((if (f_SM_isPartition xa) = 0 then 0 else (if (f_SM_within xb 0 16) = 0 then 0 else 1)) : Int32)]) (σ2 := σ) ?_ (fun J4 => ?_)
  rotate_left
  ·
    refine v_if_eq X 21 dX7_register_4 (by decide) (fun h4 => ?_) (fun h4 => ?_)
    ·
      refine v_iconst (v := 0) X dX7_register_21 (by decide) ?_
      have e9 : (((if (f_SM_isPartition xa) = 0 then 0 else (if (f_SM_within xb 0 16) = 0 then 0 else 1)) : Int32) : Int32) = 0 := by simp only [if_pos h4]
      rw [e9] at J4
      exact J4
    ·
      refine v_iload_n X 2 dX7_register_7 rfl rfl ?_
      refine v_iconst (v := 0) X dX7_register_8 (by decide) ?_
      refine v_bipush (v := 16) X dX7_register_9 (by decide) ?_
      refine v_callS_CI (rest := []) X [.int xb, .int 0, .int 16] (c_SM_within xb 0 16 σ ) mf_SM_within ws_SM_within wm_SM_40 rfl ⟨by decide, by decide⟩ (Nat.le_of_ble_eq_true rfl) ⟨by decide, by decide⟩ dX7_register_11 ?_
      refine v_if_eq X 21 dX7_register_14 (by decide) (fun h14 => ?_) (fun h14 => ?_)
      ·
        refine v_iconst (v := 0) X dX7_register_21 (by decide) ?_
        have e9 : (((if (f_SM_isPartition xa) = 0 then 0 else (if (f_SM_within xb 0 16) = 0 then 0 else 1)) : Int32) : Int32) = 0 := by simp only [if_neg h4, if_pos h14]
        rw [e9] at J4
        exact J4
      ·
        refine v_iconst (v := 1) X dX7_register_17 (by decide) ?_
        refine v_goto (tgt := 22) X dX7_register_18 (by decide) ?_
        have e9 : (((if (f_SM_isPartition xa) = 0 then 0 else (if (f_SM_within xb 0 16) = 0 then 0 else 1)) : Int32) : Int32) = 1 := by simp only [if_neg h4, if_neg h14]
        rw [e9] at J4
        exact J4
  refine v_callS_CFV (rest := []) X [.int ((if (f_SM_isPartition xa) = 0 then 0 else (if (f_SM_within xb 0 16) = 0 then 0 else 1)) : Int32)] (c_SM_refuseBadUnless hlt ((if (f_SM_isPartition xa) = 0 then 0 else (if (f_SM_within xb 0 16) = 0 then 0 else 1)) : Int32) σ ) mf_SM_refuseBadUnless ws_SM_refuseBadUnless wm_SM_44 rfl ⟨by decide, by decide⟩ (Nat.le_of_ble_eq_true rfl) ⟨by decide, by decide⟩ dX7_register_22 (fun h22 => ?_) (fun h22 => ?_)
  ·
    have e9 : f_SM_register xa xb σ = (f_SM_refuseBadUnless ((if (f_SM_isPartition xa) = 0 then 0 else (if (f_SM_within xb 0 16) = 0 then 0 else 1)) : Int32), 0, σ) := by simp only [f_SM_register, if_neg h22]
    exact hthr _ _ _ _ _ _ _ e9 h22 (by decide) (by decide)
  refine v_aload_n X 0 dX7_register_25 rfl rfl ?_
  refine v_getI (i := iSM) (k := 2) X (lt_SM ) (sh_SM ) rfl in_SM (by decide) wf_SM_25 rfl (fun _ => rfl) dX7_register_26 ?_
  refine v_callS_CFV (rest := []) X [.int (σ iSM 2)] (c_SM_refuseNowUnless hlt (σ iSM 2) σ ) mf_SM_refuseNowUnless ws_SM_refuseNowUnless wm_SM_48 rfl ⟨by decide, by decide⟩ (Nat.le_of_ble_eq_true rfl) ⟨by decide, by decide⟩ dX7_register_29 (fun h29 => ?_) (fun h29 => ?_)
  ·
    have e9 : f_SM_register xa xb σ = (f_SM_refuseNowUnless (σ iSM 2), 0, σ) := by simp only [f_SM_register, if_pos h22, if_neg h29]
    exact hthr _ _ _ _ _ _ _ e9 h29 (by decide) (by decide)
  refine v_aload_n X 0 dX7_register_32 rfl rfl ?_
  refine v_getR (j := iMA) (i := iSM) (k := 0) X (lt_SM ) (sh_SM ) rfl in_SM (by decide) wf_SM_12 rfl (fun _ => rfl) dX7_register_33 ?_
  refine v_getR (j := iAP) (i := iMA) (k := 2) X (lt_MA ) (sh_MA ) rfl in_MA (by decide) wf_SM_57 rfl (fun _ => rfl) dX7_register_36 ?_
  refine v_iload_n X 1 dX7_register_39 rfl rfl ?_
  have hv40 : vp_in xa 4 := (pt_in (ifnz (rb_nz h22)))
  refine v_aald (i := iAP) (t0 := 1) (g := iP) X (lt_APT ) (sh_APT ) rfl hv40 dX7_register_40 ?_
  refine v_astore_n (lv' := [(3, .ref (rh (iP (xa).toNatClampNeg))), (0, .ref (rh iSM)), (1, .int xa), (2, .int xb)]) X dX7_register_41 rfl (by decide) rfl ?_
  refine v_iload_n X 3 dX7_register_42 rfl rfl ?_
  refine v_bipush (v := 16) X dX7_register_43 (by decide) ?_
  refine v_suff (pc2 := 60) (lv2 := [(3, .ref (rh (iP (xa).toNatClampNeg))), (0, .ref (rh iSM)), (1, .int xa), (2, .int xb)]) (st2 := [.int ((if xb = 16 then (σ (iP (xa).toNatClampNeg) 5) else (f_PT_get (xa).toNatClampNeg xb σ)) : Int32)]) (σ2 := σ) ?_ (fun J45 => ?_)
  rotate_left
  ·
    refine v_icmp_ne X 55 dX7_register_45 (by decide) (fun h45 => ?_) (fun h45 => ?_)
    ·
      refine v_aload_n X 0 dX7_register_55 rfl rfl ?_
      refine v_iload_n X 3 dX7_register_56 rfl rfl ?_
      refine v_callV_CI (rest := []) X [.int xb] (c_PT_get (vin_lt hv40) xb σ ) mf_PT_get wi_PT_get wl_PT_get (lt_PT (vin_lt hv40)) (sh_PT (vin_lt hv40)) rfl wm_SM_122 rfl ⟨by decide, by decide⟩ (Nat.le_of_ble_eq_true rfl) ⟨by decide, by decide⟩ dX7_register_57 ?_
      have e9 : (((if xb = 16 then (σ (iP (xa).toNatClampNeg) 5) else (f_PT_get (xa).toNatClampNeg xb σ)) : Int32) : Int32) = (f_PT_get (xa).toNatClampNeg xb σ) := by simp only [if_neg h45]
      rw [e9] at J45
      exact J45
    ·
      refine v_aload_n X 0 dX7_register_48 rfl rfl ?_
      refine v_getI (i := (iP (xa).toNatClampNeg)) (k := 5) X (lt_PT (vin_lt hv40)) (sh_PT (vin_lt hv40)) rfl in_PT (by decide) wf_SM_119 rfl (fun _ => rfl) dX7_register_49 ?_
      refine v_goto (tgt := 60) X dX7_register_52 (by decide) ?_
      have e9 : (((if xb = 16 then (σ (iP (xa).toNatClampNeg) 5) else (f_PT_get (xa).toNatClampNeg xb σ)) : Int32) : Int32) = (σ (iP (xa).toNatClampNeg) 5) := by simp only [if_pos h45]
      rw [e9] at J45
      exact J45
  have e9 : f_SM_register xa xb σ = (0, ((if xb = 16 then (σ (iP (xa).toNatClampNeg) 5) else (f_PT_get (xa).toNatClampNeg xb σ)) : Int32), σ) := by simp only [f_SM_register, if_pos h22, if_pos h29]
  exact hend _ _ _ _ _ _ e9 (by decide) (by decide) dX7_register_60
def f_SM_memory (xa : Int32) (σ : St) : Int32 × Int32 × St :=
  (if f_SM_refuseBadUnless (f_SM_isWord xa) = 0 then (0, (σ iWO (xa).toNatClampNeg), σ) else (f_SM_refuseBadUnless (f_SM_isWord xa), 0, σ))
set_option maxHeartbeats 4000000 in
set_option maxRecDepth 100000 in
theorem c_SM_memory (hlt : l.stackTraces = false) (xa : Int32) (σ : St) (hI : Ic σ) : CFI l D (tyL cA) rh (rcW rh cA) NW yX7_memory cX7_memory 2 7 3 18 [.ref (rh iSM), .int xa] σ (f_SM_memory xa σ) := by
  refine CFI.of rfl (Nat.le_of_ble_eq_true rfl) hlt ?_
  intro p9 e s m args below meth c A Q X hend hthr hnew
  refine v_lv (lv' := [(0, .ref (rh iSM)), (1, .int xa)]) [0, 1] rfl ?_
  refine v_iload_n X 1 dX7_memory_0 rfl rfl ?_
  refine v_callS_CI (rest := []) X [.int xa] (c_SM_isWord xa σ ) mf_SM_isWord ws_SM_isWord wm_SM_69 rfl ⟨by decide, by decide⟩ (Nat.le_of_ble_eq_true rfl) ⟨by decide, by decide⟩ dX7_memory_1 ?_
  refine v_callS_CFV (rest := []) X [.int (f_SM_isWord xa)] (c_SM_refuseBadUnless hlt (f_SM_isWord xa) σ ) mf_SM_refuseBadUnless ws_SM_refuseBadUnless wm_SM_44 rfl ⟨by decide, by decide⟩ (Nat.le_of_ble_eq_true rfl) ⟨by decide, by decide⟩ dX7_memory_4 (fun h4 => ?_) (fun h4 => ?_)
  ·
    have e9 : f_SM_memory xa σ = (f_SM_refuseBadUnless (f_SM_isWord xa), 0, σ) := by simp only [f_SM_memory, if_neg h4]
    exact hthr _ _ _ _ _ _ _ e9 h4 (by decide) (by decide)
  refine v_aload_n X 0 dX7_memory_7 rfl rfl ?_
  refine v_getR (j := iMA) (i := iSM) (k := 0) X (lt_SM ) (sh_SM ) rfl in_SM (by decide) wf_SM_12 rfl (fun _ => rfl) dX7_memory_8 ?_
  refine v_getR (j := iWO) (i := iMA) (k := 1) X (lt_MA ) (sh_MA ) rfl in_MA (by decide) wf_SM_72 rfl (fun _ => rfl) dX7_memory_11 ?_
  refine v_iload_n X 1 dX7_memory_14 rfl rfl ?_
  have hv15 : vp_in xa 96 := (wo_in (rb_nz h4))
  refine v_iald (i := iWO) (t0 := 0) X (lt_WO ) (sh_WO ) rfl hv15 dX7_memory_15 ?_
  have e9 : f_SM_memory xa σ = (0, (σ iWO (xa).toNatClampNeg), σ) := by simp only [f_SM_memory, if_pos h4]
  exact hend _ _ _ _ _ _ e9 (by decide) (by decide) dX7_memory_16
def f_SM_told (xa : Int32) (xb : Int32) (σ : St) : Int32 × Int32 × St :=
  (if f_SM_refuseBadUnless ((if (f_SM_isPartition xa) = 0 then 0 else (if (f_SM_within xb 0 8) = 0 then 0 else 1)) : Int32) = 0 then (if xb = 6 then (0, (σ (iP (xa).toNatClampNeg) 3), σ) else (if xb = 7 then (0, (σ (iP (xa).toNatClampNeg) 1), σ) else (if xb = 8 then (0, (σ (iP (xa).toNatClampNeg) 2), σ) else (0, ((if (σ iSM 2) = 0 then 0 else (f_PT_sinceBooted (xa).toNatClampNeg xb σ)) : Int32), σ)))) else (f_SM_refuseBadUnless ((if (f_SM_isPartition xa) = 0 then 0 else (if (f_SM_within xb 0 8) = 0 then 0 else 1)) : Int32), 0, σ))
set_option maxHeartbeats 4000000 in
set_option maxRecDepth 100000 in
theorem c_SM_told (hlt : l.stackTraces = false) (xa : Int32) (xb : Int32) (σ : St) (hI : Ic σ) : CFI l D (tyL cA) rh (rcW rh cA) NW yX7_told cX7_told 4 7 3 18 [.ref (rh iSM), .int xa, .int xb] σ (f_SM_told xa xb σ) := by
  refine CFI.of rfl (Nat.le_of_ble_eq_true rfl) hlt ?_
  intro p9 e s m args below meth c A Q X hend hthr hnew
  refine v_lv (lv' := [(0, .ref (rh iSM)), (1, .int xa), (2, .int xb)]) [0, 1, 2] rfl ?_
  refine v_iload_n X 1 dX7_told_0 rfl rfl ?_
  refine v_callS_CI (rest := []) X [.int xa] (c_SM_isPartition xa σ ) mf_SM_isPartition ws_SM_isPartition wm_SM_36 rfl ⟨by decide, by decide⟩ (Nat.le_of_ble_eq_true rfl) ⟨by decide, by decide⟩ dX7_told_1 ?_
  refine v_suff (pc2 := 22) (lv2 := [(0, .ref (rh iSM)), (1, .int xa), (2, .int xb)]) (st2 := [.int ((if (f_SM_isPartition xa) = 0 then 0 else (if (f_SM_within xb 0 8) = 0 then 0 else 1)) : Int32)]) (σ2 := σ) ?_ (fun J4 => ?_)
  rotate_left
  ·
    refine v_if_eq X 21 dX7_told_4 (by decide) (fun h4 => ?_) (fun h4 => ?_)
    ·
      refine v_iconst (v := 0) X dX7_told_21 (by decide) ?_
      have e9 : (((if (f_SM_isPartition xa) = 0 then 0 else (if (f_SM_within xb 0 8) = 0 then 0 else 1)) : Int32) : Int32) = 0 := by simp only [if_pos h4]
      rw [e9] at J4
      exact J4
    ·
      refine v_iload_n X 2 dX7_told_7 rfl rfl ?_
      refine v_iconst (v := 0) X dX7_told_8 (by decide) ?_
      refine v_bipush (v := 8) X dX7_told_9 (by decide) ?_
      refine v_callS_CI (rest := []) X [.int xb, .int 0, .int 8] (c_SM_within xb 0 8 σ ) mf_SM_within ws_SM_within wm_SM_40 rfl ⟨by decide, by decide⟩ (Nat.le_of_ble_eq_true rfl) ⟨by decide, by decide⟩ dX7_told_11 ?_
      refine v_if_eq X 21 dX7_told_14 (by decide) (fun h14 => ?_) (fun h14 => ?_)
      ·
        refine v_iconst (v := 0) X dX7_told_21 (by decide) ?_
        have e9 : (((if (f_SM_isPartition xa) = 0 then 0 else (if (f_SM_within xb 0 8) = 0 then 0 else 1)) : Int32) : Int32) = 0 := by simp only [if_neg h4, if_pos h14]
        rw [e9] at J4
        exact J4
      ·
        refine v_iconst (v := 1) X dX7_told_17 (by decide) ?_
        refine v_goto (tgt := 22) X dX7_told_18 (by decide) ?_
        have e9 : (((if (f_SM_isPartition xa) = 0 then 0 else (if (f_SM_within xb 0 8) = 0 then 0 else 1)) : Int32) : Int32) = 1 := by simp only [if_neg h4, if_neg h14]
        rw [e9] at J4
        exact J4
  refine v_callS_CFV (rest := []) X [.int ((if (f_SM_isPartition xa) = 0 then 0 else (if (f_SM_within xb 0 8) = 0 then 0 else 1)) : Int32)] (c_SM_refuseBadUnless hlt ((if (f_SM_isPartition xa) = 0 then 0 else (if (f_SM_within xb 0 8) = 0 then 0 else 1)) : Int32) σ ) mf_SM_refuseBadUnless ws_SM_refuseBadUnless wm_SM_44 rfl ⟨by decide, by decide⟩ (Nat.le_of_ble_eq_true rfl) ⟨by decide, by decide⟩ dX7_told_22 (fun h22 => ?_) (fun h22 => ?_)
  ·
    have e9 : f_SM_told xa xb σ = (f_SM_refuseBadUnless ((if (f_SM_isPartition xa) = 0 then 0 else (if (f_SM_within xb 0 8) = 0 then 0 else 1)) : Int32), 0, σ) := by simp only [f_SM_told, if_neg h22]
    exact hthr _ _ _ _ _ _ _ e9 h22 (by decide) (by decide)
  refine v_aload_n X 0 dX7_told_25 rfl rfl ?_
  refine v_getR (j := iMA) (i := iSM) (k := 0) X (lt_SM ) (sh_SM ) rfl in_SM (by decide) wf_SM_12 rfl (fun _ => rfl) dX7_told_26 ?_
  refine v_getR (j := iAP) (i := iMA) (k := 2) X (lt_MA ) (sh_MA ) rfl in_MA (by decide) wf_SM_57 rfl (fun _ => rfl) dX7_told_29 ?_
  refine v_iload_n X 1 dX7_told_32 rfl rfl ?_
  have hv33 : vp_in xa 4 := (pt_in (ifnz (rb_nz h22)))
  refine v_aald (i := iAP) (t0 := 1) (g := iP) X (lt_APT ) (sh_APT ) rfl hv33 dX7_told_33 ?_
  refine v_astore_n (lv' := [(3, .ref (rh (iP (xa).toNatClampNeg))), (0, .ref (rh iSM)), (1, .int xa), (2, .int xb)]) X dX7_told_34 rfl (by decide) rfl ?_
  refine v_iload_n X 3 dX7_told_35 rfl rfl ?_
  by_cases h36_0 : xb = 6
  ·
    refine v_tswI (off := 28) X 6 64 h36_0 dX7_told_36 (by decide) (by decide) ?_
    refine v_aload_n X 0 dX7_told_64 rfl rfl ?_
    refine v_getI (i := (iP (xa).toNatClampNeg)) (k := 3) X (lt_PT (vin_lt hv33)) (sh_PT (vin_lt hv33)) rfl in_PT (by decide) wf_SM_76 rfl (fun _ => rfl) dX7_told_65 ?_
    have e9 : f_SM_told xa xb σ = (0, (σ (iP (xa).toNatClampNeg) 3), σ) := by simp only [f_SM_told, if_pos h22, if_pos h36_0]
    exact hend _ _ _ _ _ _ e9 (by decide) (by decide) dX7_told_68
  by_cases h36_1 : xb = 7
  ·
    refine v_tswI (off := 33) X 7 69 h36_1 dX7_told_36 (by decide) (by decide) ?_
    refine v_aload_n X 0 dX7_told_69 rfl rfl ?_
    refine v_getI (i := (iP (xa).toNatClampNeg)) (k := 1) X (lt_PT (vin_lt hv33)) (sh_PT (vin_lt hv33)) rfl in_PT (by decide) wf_SM_61 rfl (fun _ => rfl) dX7_told_70 ?_
    have e9 : f_SM_told xa xb σ = (0, (σ (iP (xa).toNatClampNeg) 1), σ) := by simp only [f_SM_told, if_pos h22, if_neg h36_0, if_pos h36_1]
    exact hend _ _ _ _ _ _ e9 (by decide) (by decide) dX7_told_73
  by_cases h36_2 : xb = 8
  ·
    refine v_tswI (off := 38) X 8 74 h36_2 dX7_told_36 (by decide) (by decide) ?_
    refine v_aload_n X 0 dX7_told_74 rfl rfl ?_
    refine v_getI (i := (iP (xa).toNatClampNeg)) (k := 2) X (lt_PT (vin_lt hv33)) (sh_PT (vin_lt hv33)) rfl in_PT (by decide) wf_SM_66 rfl (fun _ => rfl) dX7_told_75 ?_
    have e9 : f_SM_told xa xb σ = (0, (σ (iP (xa).toNatClampNeg) 2), σ) := by simp only [f_SM_told, if_pos h22, if_neg h36_0, if_neg h36_1, if_pos h36_2]
    exact hend _ _ _ _ _ _ e9 (by decide) (by decide) dX7_told_78
  refine v_tswO X 79 dX7_told_36 (by have g0 := lv_neT (a := 6) h36_0 (by decide); have g1 := lv_neT (a := 7) h36_1 (by decide); have g2 := lv_neT (a := 8) h36_2 (by decide); omega) (by decide) ?_
  refine v_aload_n X 1 dX7_told_79 rfl rfl ?_
  refine v_getI (i := iSM) (k := 2) X (lt_SM ) (sh_SM ) rfl in_SM (by decide) wf_SM_25 rfl (fun _ => rfl) dX7_told_80 ?_
  refine v_suff (pc2 := 95) (lv2 := [(3, .ref (rh (iP (xa).toNatClampNeg))), (0, .ref (rh iSM)), (1, .int xa), (2, .int xb)]) (st2 := [.int ((if (σ iSM 2) = 0 then 0 else (f_PT_sinceBooted (xa).toNatClampNeg xb σ)) : Int32)]) (σ2 := σ) ?_ (fun J83 => ?_)
  rotate_left
  ·
    refine v_if_eq X 94 dX7_told_83 (by decide) (fun h83 => ?_) (fun h83 => ?_)
    ·
      refine v_iconst (v := 0) X dX7_told_94 (by decide) ?_
      have e9 : (((if (σ iSM 2) = 0 then 0 else (f_PT_sinceBooted (xa).toNatClampNeg xb σ)) : Int32) : Int32) = 0 := by simp only [if_pos h83]
      rw [e9] at J83
      exact J83
    ·
      refine v_aload_n X 0 dX7_told_86 rfl rfl ?_
      refine v_iload_n X 3 dX7_told_87 rfl rfl ?_
      refine v_callV_CI (rest := []) X [.int xb] (c_PT_sinceBooted (vin_lt hv33) xb σ ) mf_PT_sinceBooted wi_PT_sinceBooted wl_PT_sinceBooted (lt_PT (vin_lt hv33)) (sh_PT (vin_lt hv33)) rfl wm_SM_126 rfl ⟨by decide, by decide⟩ (Nat.le_of_ble_eq_true rfl) ⟨by decide, by decide⟩ dX7_told_88 ?_
      refine v_goto (tgt := 95) X dX7_told_91 (by decide) ?_
      have e9 : (((if (σ iSM 2) = 0 then 0 else (f_PT_sinceBooted (xa).toNatClampNeg xb σ)) : Int32) : Int32) = (f_PT_sinceBooted (xa).toNatClampNeg xb σ) := by simp only [if_neg h83]
      rw [e9] at J83
      exact J83
  have e9 : f_SM_told xa xb σ = (0, ((if (σ iSM 2) = 0 then 0 else (f_PT_sinceBooted (xa).toNatClampNeg xb σ)) : Int32), σ) := by simp only [f_SM_told, if_pos h22, if_neg h36_0, if_neg h36_1, if_neg h36_2]
  exact hend _ _ _ _ _ _ e9 (by decide) (by decide) dX7_told_95
def f_SM_object (xa : Int32) (xb : Int32) (σ : St) : Int32 × Int32 × St :=
  (if f_SM_refuseBadUnless ((if (f_SM_isChannel xa) = 0 then 0 else (if (f_SM_within xb 0 3) = 0 then 0 else 1)) : Int32) = 0 then (if xb = 0 then (0, (f_CH_valueOrZero (xa).toNatClampNeg σ), σ) else (if xb = 1 then (0, (f_CH_hourOrNone (xa).toNatClampNeg σ), σ) else (if xb = 2 then (0, (σ (iS (xa).toNatClampNeg) 0), σ) else (0, (σ (iS (xa).toNatClampNeg) 1), σ)))) else (f_SM_refuseBadUnless ((if (f_SM_isChannel xa) = 0 then 0 else (if (f_SM_within xb 0 3) = 0 then 0 else 1)) : Int32), 0, σ))
set_option maxHeartbeats 4000000 in
set_option maxRecDepth 100000 in
theorem c_SM_object (hlt : l.stackTraces = false) (xa : Int32) (xb : Int32) (σ : St) (hI : Ic σ) : CFI l D (tyL cA) rh (rcW rh cA) NW yX7_object cX7_object 3 7 3 18 [.ref (rh iSM), .int xa, .int xb] σ (f_SM_object xa xb σ) := by
  refine CFI.of rfl (Nat.le_of_ble_eq_true rfl) hlt ?_
  intro p9 e s m args below meth c A Q X hend hthr hnew
  refine v_lv (lv' := [(0, .ref (rh iSM)), (1, .int xa), (2, .int xb)]) [0, 1, 2] rfl ?_
  refine v_iload_n X 1 dX7_object_0 rfl rfl ?_
  refine v_callS_CI (rest := []) X [.int xa] (c_SM_isChannel xa σ ) mf_SM_isChannel ws_SM_isChannel wm_SM_84 rfl ⟨by decide, by decide⟩ (Nat.le_of_ble_eq_true rfl) ⟨by decide, by decide⟩ dX7_object_1 ?_
  refine v_suff (pc2 := 21) (lv2 := [(0, .ref (rh iSM)), (1, .int xa), (2, .int xb)]) (st2 := [.int ((if (f_SM_isChannel xa) = 0 then 0 else (if (f_SM_within xb 0 3) = 0 then 0 else 1)) : Int32)]) (σ2 := σ) ?_ (fun J4 => ?_)
  rotate_left
  ·
    refine v_if_eq X 20 dX7_object_4 (by decide) (fun h4 => ?_) (fun h4 => ?_)
    ·
      refine v_iconst (v := 0) X dX7_object_20 (by decide) ?_
      have e9 : (((if (f_SM_isChannel xa) = 0 then 0 else (if (f_SM_within xb 0 3) = 0 then 0 else 1)) : Int32) : Int32) = 0 := by simp only [if_pos h4]
      rw [e9] at J4
      exact J4
    ·
      refine v_iload_n X 2 dX7_object_7 rfl rfl ?_
      refine v_iconst (v := 0) X dX7_object_8 (by decide) ?_
      refine v_iconst (v := 3) X dX7_object_9 (by decide) ?_
      refine v_callS_CI (rest := []) X [.int xb, .int 0, .int 3] (c_SM_within xb 0 3 σ ) mf_SM_within ws_SM_within wm_SM_40 rfl ⟨by decide, by decide⟩ (Nat.le_of_ble_eq_true rfl) ⟨by decide, by decide⟩ dX7_object_10 ?_
      refine v_if_eq X 20 dX7_object_13 (by decide) (fun h13 => ?_) (fun h13 => ?_)
      ·
        refine v_iconst (v := 0) X dX7_object_20 (by decide) ?_
        have e9 : (((if (f_SM_isChannel xa) = 0 then 0 else (if (f_SM_within xb 0 3) = 0 then 0 else 1)) : Int32) : Int32) = 0 := by simp only [if_neg h4, if_pos h13]
        rw [e9] at J4
        exact J4
      ·
        refine v_iconst (v := 1) X dX7_object_16 (by decide) ?_
        refine v_goto (tgt := 21) X dX7_object_17 (by decide) ?_
        have e9 : (((if (f_SM_isChannel xa) = 0 then 0 else (if (f_SM_within xb 0 3) = 0 then 0 else 1)) : Int32) : Int32) = 1 := by simp only [if_neg h4, if_neg h13]
        rw [e9] at J4
        exact J4
  refine v_callS_CFV (rest := []) X [.int ((if (f_SM_isChannel xa) = 0 then 0 else (if (f_SM_within xb 0 3) = 0 then 0 else 1)) : Int32)] (c_SM_refuseBadUnless hlt ((if (f_SM_isChannel xa) = 0 then 0 else (if (f_SM_within xb 0 3) = 0 then 0 else 1)) : Int32) σ ) mf_SM_refuseBadUnless ws_SM_refuseBadUnless wm_SM_44 rfl ⟨by decide, by decide⟩ (Nat.le_of_ble_eq_true rfl) ⟨by decide, by decide⟩ dX7_object_21 (fun h21 => ?_) (fun h21 => ?_)
  ·
    have e9 : f_SM_object xa xb σ = (f_SM_refuseBadUnless ((if (f_SM_isChannel xa) = 0 then 0 else (if (f_SM_within xb 0 3) = 0 then 0 else 1)) : Int32), 0, σ) := by simp only [f_SM_object, if_neg h21]
    exact hthr _ _ _ _ _ _ _ e9 h21 (by decide) (by decide)
  refine v_iload_n X 2 dX7_object_24 rfl rfl ?_
  by_cases h25_0 : xb = 0
  ·
    refine v_tswI (off := 27) X 0 52 h25_0 dX7_object_25 (by decide) (by decide) ?_
    refine v_aload_n X 0 dX7_object_52 rfl rfl ?_
    refine v_getR (j := iMA) (i := iSM) (k := 0) X (lt_SM ) (sh_SM ) rfl in_SM (by decide) wf_SM_12 rfl (fun _ => rfl) dX7_object_53 ?_
    refine v_getR (j := iAC) (i := iMA) (k := 3) X (lt_MA ) (sh_MA ) rfl in_MA (by decide) wf_SM_87 rfl (fun _ => rfl) dX7_object_56 ?_
    refine v_iload_n X 1 dX7_object_59 rfl rfl ?_
    have hv60 : vp_in xa 4 := (ch_in (ifnz (rb_nz h21)))
    refine v_aald (i := iAC) (t0 := 2) (g := iC) X (lt_ACH ) (sh_ACH ) rfl hv60 dX7_object_60 ?_
    refine v_callV_CI (rest := []) X [] (c_CH_valueOrZero (vin_lt hv60) σ ) mf_CH_valueOrZero wi_CH_valueOrZero wl_CH_valueOrZero (lt_CH (vin_lt hv60)) (sh_CH (vin_lt hv60)) rfl wm_SM_129 rfl ⟨by decide, by decide⟩ (Nat.le_of_ble_eq_true rfl) ⟨by decide, by decide⟩ dX7_object_61 ?_
    have e9 : f_SM_object xa xb σ = (0, (f_CH_valueOrZero (xa).toNatClampNeg σ), σ) := by simp only [f_SM_object, if_pos h21, if_pos h25_0]
    exact hend _ _ _ _ _ _ e9 (by decide) (by decide) dX7_object_64
  by_cases h25_1 : xb = 1
  ·
    refine v_tswI (off := 40) X 1 65 h25_1 dX7_object_25 (by decide) (by decide) ?_
    refine v_aload_n X 0 dX7_object_65 rfl rfl ?_
    refine v_getR (j := iMA) (i := iSM) (k := 0) X (lt_SM ) (sh_SM ) rfl in_SM (by decide) wf_SM_12 rfl (fun _ => rfl) dX7_object_66 ?_
    refine v_getR (j := iAC) (i := iMA) (k := 3) X (lt_MA ) (sh_MA ) rfl in_MA (by decide) wf_SM_87 rfl (fun _ => rfl) dX7_object_69 ?_
    refine v_iload_n X 1 dX7_object_72 rfl rfl ?_
    have hv73 : vp_in xa 4 := (ch_in (ifnz (rb_nz h21)))
    refine v_aald (i := iAC) (t0 := 2) (g := iC) X (lt_ACH ) (sh_ACH ) rfl hv73 dX7_object_73 ?_
    refine v_callV_CI (rest := []) X [] (c_CH_hourOrNone (vin_lt hv73) σ ) mf_CH_hourOrNone wi_CH_hourOrNone wl_CH_hourOrNone (lt_CH (vin_lt hv73)) (sh_CH (vin_lt hv73)) rfl wm_SM_132 rfl ⟨by decide, by decide⟩ (Nat.le_of_ble_eq_true rfl) ⟨by decide, by decide⟩ dX7_object_74 ?_
    have e9 : f_SM_object xa xb σ = (0, (f_CH_hourOrNone (xa).toNatClampNeg σ), σ) := by simp only [f_SM_object, if_pos h21, if_neg h25_0, if_pos h25_1]
    exact hend _ _ _ _ _ _ e9 (by decide) (by decide) dX7_object_77
  by_cases h25_2 : xb = 2
  ·
    refine v_tswI (off := 53) X 2 78 h25_2 dX7_object_25 (by decide) (by decide) ?_
    refine v_aload_n X 0 dX7_object_78 rfl rfl ?_
    refine v_getR (j := iMA) (i := iSM) (k := 0) X (lt_SM ) (sh_SM ) rfl in_SM (by decide) wf_SM_12 rfl (fun _ => rfl) dX7_object_79 ?_
    refine v_getR (j := iAS) (i := iMA) (k := 4) X (lt_MA ) (sh_MA ) rfl in_MA (by decide) wf_SM_135 rfl (fun _ => rfl) dX7_object_82 ?_
    refine v_iload_n X 1 dX7_object_85 rfl rfl ?_
    have hv86 : vp_in xa 4 := (ch_in (ifnz (rb_nz h21)))
    refine v_aald (i := iAS) (t0 := 3) (g := iS) X (lt_ASL ) (sh_ASL ) rfl hv86 dX7_object_86 ?_
    refine v_getI (i := (iS (xa).toNatClampNeg)) (k := 0) X (lt_SL (vin_lt hv86)) (sh_SL (vin_lt hv86)) rfl in_SL (by decide) wf_SM_139 rfl (fun _ => rfl) dX7_object_87 ?_
    have e9 : f_SM_object xa xb σ = (0, (σ (iS (xa).toNatClampNeg) 0), σ) := by simp only [f_SM_object, if_pos h21, if_neg h25_0, if_neg h25_1, if_pos h25_2]
    exact hend _ _ _ _ _ _ e9 (by decide) (by decide) dX7_object_90
  refine v_tswO X 91 dX7_object_25 (by have g0 := lv_neT (a := 0) h25_0 (by decide); have g1 := lv_neT (a := 1) h25_1 (by decide); have g2 := lv_neT (a := 2) h25_2 (by decide); omega) (by decide) ?_
  refine v_aload_n X 0 dX7_object_91 rfl rfl ?_
  refine v_getR (j := iMA) (i := iSM) (k := 0) X (lt_SM ) (sh_SM ) rfl in_SM (by decide) wf_SM_12 rfl (fun _ => rfl) dX7_object_92 ?_
  refine v_getR (j := iAS) (i := iMA) (k := 4) X (lt_MA ) (sh_MA ) rfl in_MA (by decide) wf_SM_135 rfl (fun _ => rfl) dX7_object_95 ?_
  refine v_iload_n X 1 dX7_object_98 rfl rfl ?_
  have hv99 : vp_in xa 4 := (ch_in (ifnz (rb_nz h21)))
  refine v_aald (i := iAS) (t0 := 3) (g := iS) X (lt_ASL ) (sh_ASL ) rfl hv99 dX7_object_99 ?_
  refine v_getI (i := (iS (xa).toNatClampNeg)) (k := 1) X (lt_SL (vin_lt hv99)) (sh_SL (vin_lt hv99)) rfl in_SL (by decide) wf_SM_144 rfl (fun _ => rfl) dX7_object_100 ?_
  have e9 : f_SM_object xa xb σ = (0, (σ (iS (xa).toNatClampNeg) 1), σ) := by simp only [f_SM_object, if_pos h21, if_neg h25_0, if_neg h25_1, if_neg h25_2]
  exact hend _ _ _ _ _ _ e9 (by decide) (by decide) dX7_object_103
def f_SM_count (xa : Int32) (σ : St) : Int32 :=
  (if xa = 0 then ((if (σ iSM 2) = 0 then 0 else 1) : Int32) else (if xa = 1 then ((if (σ iSM 2) = 0 then 0 else (σ iMA 5)) : Int32) else (if xa = 2 then ((if (σ iSM 2) = 0 then 0 else (σ iTT 3)) : Int32) else (if xa = 3 then ((if (σ iSM 2) = 0 then 0 else (σ iTT 4)) : Int32) else (if xa = 4 then ((if (σ iSM 2) = 0 then 0 else (σ iSM 4)) : Int32) else (if xa = 5 then ((if (σ iSM 2) = 0 then 0 else (σ iTT 5)) : Int32) else (if xa = 6 then (σ iTT 2) else (if xa = 7 then (σ iSM 3) else (-1)))))))))
set_option maxHeartbeats 4000000 in
set_option maxRecDepth 100000 in
theorem c_SM_count (xa : Int32) (σ : St) : CI l D (tyL cA) rh (rcW rh cA) NW yX7_count cX7_count 2 .int 0 [.ref (rh iSM), .int xa] σ (f_SM_count xa σ) σ := by
  refine CI.of rfl (Nat.le_of_ble_eq_true rfl) rfl ?_
  intro p9 e s m args below meth c A Q X hend
  refine v_lv (lv' := [(0, .ref (rh iSM)), (1, .int xa)]) [0, 1] rfl ?_
  refine v_iload_n X 1 dX7_count_0 rfl rfl ?_
  by_cases h1_0 : xa = 0
  ·
    refine v_tswI (off := 47) X 0 48 h1_0 dX7_count_1 (by decide) (by decide) ?_
    refine v_aload_n X 0 dX7_count_48 rfl rfl ?_
    refine v_getI (i := iSM) (k := 2) X (lt_SM ) (sh_SM ) rfl in_SM (by decide) wf_SM_25 rfl (fun _ => rfl) dX7_count_49 ?_
    refine v_suff (pc2 := 60) (lv2 := [(0, .ref (rh iSM)), (1, .int xa)]) (st2 := [.int ((if (σ iSM 2) = 0 then 0 else 1) : Int32)]) (σ2 := σ) ?_ (fun J52 => ?_)
    rotate_left
    ·
      refine v_if_eq X 59 dX7_count_52 (by decide) (fun h52 => ?_) (fun h52 => ?_)
      ·
        refine v_iconst (v := 0) X dX7_count_59 (by decide) ?_
        have e9 : (((if (σ iSM 2) = 0 then 0 else 1) : Int32) : Int32) = 0 := by simp only [if_pos h52]
        rw [e9] at J52
        exact J52
      ·
        refine v_iconst (v := 1) X dX7_count_55 (by decide) ?_
        refine v_goto (tgt := 60) X dX7_count_56 (by decide) ?_
        have e9 : (((if (σ iSM 2) = 0 then 0 else 1) : Int32) : Int32) = 1 := by simp only [if_neg h52]
        rw [e9] at J52
        exact J52
    have e9 : f_SM_count xa σ = ((if (σ iSM 2) = 0 then 0 else 1) : Int32) := by simp only [f_SM_count, if_pos h1_0]
    exact v_endI hend dX7_count_60 e9 rfl
  by_cases h1_1 : xa = 1
  ·
    refine v_tswI (off := 60) X 1 61 h1_1 dX7_count_1 (by decide) (by decide) ?_
    refine v_aload_n X 0 dX7_count_61 rfl rfl ?_
    refine v_getI (i := iSM) (k := 2) X (lt_SM ) (sh_SM ) rfl in_SM (by decide) wf_SM_25 rfl (fun _ => rfl) dX7_count_62 ?_
    refine v_suff (pc2 := 79) (lv2 := [(0, .ref (rh iSM)), (1, .int xa)]) (st2 := [.int ((if (σ iSM 2) = 0 then 0 else (σ iMA 5)) : Int32)]) (σ2 := σ) ?_ (fun J65 => ?_)
    rotate_left
    ·
      refine v_if_eq X 78 dX7_count_65 (by decide) (fun h65 => ?_) (fun h65 => ?_)
      ·
        refine v_iconst (v := 0) X dX7_count_78 (by decide) ?_
        have e9 : (((if (σ iSM 2) = 0 then 0 else (σ iMA 5)) : Int32) : Int32) = 0 := by simp only [if_pos h65]
        rw [e9] at J65
        exact J65
      ·
        refine v_aload_n X 0 dX7_count_68 rfl rfl ?_
        refine v_getR (j := iMA) (i := iSM) (k := 0) X (lt_SM ) (sh_SM ) rfl in_SM (by decide) wf_SM_12 rfl (fun _ => rfl) dX7_count_69 ?_
        refine v_getI (i := iMA) (k := 5) X (lt_MA ) (sh_MA ) rfl in_MA (by decide) wf_SM_147 rfl (fun _ => rfl) dX7_count_72 ?_
        refine v_goto (tgt := 79) X dX7_count_75 (by decide) ?_
        have e9 : (((if (σ iSM 2) = 0 then 0 else (σ iMA 5)) : Int32) : Int32) = (σ iMA 5) := by simp only [if_neg h65]
        rw [e9] at J65
        exact J65
    have e9 : f_SM_count xa σ = ((if (σ iSM 2) = 0 then 0 else (σ iMA 5)) : Int32) := by simp only [f_SM_count, if_neg h1_0, if_pos h1_1]
    exact v_endI hend dX7_count_79 e9 rfl
  by_cases h1_2 : xa = 2
  ·
    refine v_tswI (off := 79) X 2 80 h1_2 dX7_count_1 (by decide) (by decide) ?_
    refine v_aload_n X 0 dX7_count_80 rfl rfl ?_
    refine v_getI (i := iSM) (k := 2) X (lt_SM ) (sh_SM ) rfl in_SM (by decide) wf_SM_25 rfl (fun _ => rfl) dX7_count_81 ?_
    refine v_suff (pc2 := 98) (lv2 := [(0, .ref (rh iSM)), (1, .int xa)]) (st2 := [.int ((if (σ iSM 2) = 0 then 0 else (σ iTT 3)) : Int32)]) (σ2 := σ) ?_ (fun J84 => ?_)
    rotate_left
    ·
      refine v_if_eq X 97 dX7_count_84 (by decide) (fun h84 => ?_) (fun h84 => ?_)
      ·
        refine v_iconst (v := 0) X dX7_count_97 (by decide) ?_
        have e9 : (((if (σ iSM 2) = 0 then 0 else (σ iTT 3)) : Int32) : Int32) = 0 := by simp only [if_pos h84]
        rw [e9] at J84
        exact J84
      ·
        refine v_aload_n X 0 dX7_count_87 rfl rfl ?_
        refine v_getR (j := iTT) (i := iSM) (k := 1) X (lt_SM ) (sh_SM ) rfl in_SM (by decide) wf_SM_21 rfl (fun _ => rfl) dX7_count_88 ?_
        refine v_getI (i := iTT) (k := 3) X (lt_TT ) (sh_TT ) rfl in_TT (by decide) wf_SM_150 rfl (fun _ => rfl) dX7_count_91 ?_
        refine v_goto (tgt := 98) X dX7_count_94 (by decide) ?_
        have e9 : (((if (σ iSM 2) = 0 then 0 else (σ iTT 3)) : Int32) : Int32) = (σ iTT 3) := by simp only [if_neg h84]
        rw [e9] at J84
        exact J84
    have e9 : f_SM_count xa σ = ((if (σ iSM 2) = 0 then 0 else (σ iTT 3)) : Int32) := by simp only [f_SM_count, if_neg h1_0, if_neg h1_1, if_pos h1_2]
    exact v_endI hend dX7_count_98 e9 rfl
  by_cases h1_3 : xa = 3
  ·
    refine v_tswI (off := 98) X 3 99 h1_3 dX7_count_1 (by decide) (by decide) ?_
    refine v_aload_n X 0 dX7_count_99 rfl rfl ?_
    refine v_getI (i := iSM) (k := 2) X (lt_SM ) (sh_SM ) rfl in_SM (by decide) wf_SM_25 rfl (fun _ => rfl) dX7_count_100 ?_
    refine v_suff (pc2 := 117) (lv2 := [(0, .ref (rh iSM)), (1, .int xa)]) (st2 := [.int ((if (σ iSM 2) = 0 then 0 else (σ iTT 4)) : Int32)]) (σ2 := σ) ?_ (fun J103 => ?_)
    rotate_left
    ·
      refine v_if_eq X 116 dX7_count_103 (by decide) (fun h103 => ?_) (fun h103 => ?_)
      ·
        refine v_iconst (v := 0) X dX7_count_116 (by decide) ?_
        have e9 : (((if (σ iSM 2) = 0 then 0 else (σ iTT 4)) : Int32) : Int32) = 0 := by simp only [if_pos h103]
        rw [e9] at J103
        exact J103
      ·
        refine v_aload_n X 0 dX7_count_106 rfl rfl ?_
        refine v_getR (j := iTT) (i := iSM) (k := 1) X (lt_SM ) (sh_SM ) rfl in_SM (by decide) wf_SM_21 rfl (fun _ => rfl) dX7_count_107 ?_
        refine v_getI (i := iTT) (k := 4) X (lt_TT ) (sh_TT ) rfl in_TT (by decide) wf_SM_153 rfl (fun _ => rfl) dX7_count_110 ?_
        refine v_goto (tgt := 117) X dX7_count_113 (by decide) ?_
        have e9 : (((if (σ iSM 2) = 0 then 0 else (σ iTT 4)) : Int32) : Int32) = (σ iTT 4) := by simp only [if_neg h103]
        rw [e9] at J103
        exact J103
    have e9 : f_SM_count xa σ = ((if (σ iSM 2) = 0 then 0 else (σ iTT 4)) : Int32) := by simp only [f_SM_count, if_neg h1_0, if_neg h1_1, if_neg h1_2, if_pos h1_3]
    exact v_endI hend dX7_count_117 e9 rfl
  by_cases h1_4 : xa = 4
  ·
    refine v_tswI (off := 117) X 4 118 h1_4 dX7_count_1 (by decide) (by decide) ?_
    refine v_aload_n X 0 dX7_count_118 rfl rfl ?_
    refine v_getI (i := iSM) (k := 2) X (lt_SM ) (sh_SM ) rfl in_SM (by decide) wf_SM_25 rfl (fun _ => rfl) dX7_count_119 ?_
    refine v_suff (pc2 := 133) (lv2 := [(0, .ref (rh iSM)), (1, .int xa)]) (st2 := [.int ((if (σ iSM 2) = 0 then 0 else (σ iSM 4)) : Int32)]) (σ2 := σ) ?_ (fun J122 => ?_)
    rotate_left
    ·
      refine v_if_eq X 132 dX7_count_122 (by decide) (fun h122 => ?_) (fun h122 => ?_)
      ·
        refine v_iconst (v := 0) X dX7_count_132 (by decide) ?_
        have e9 : (((if (σ iSM 2) = 0 then 0 else (σ iSM 4)) : Int32) : Int32) = 0 := by simp only [if_pos h122]
        rw [e9] at J122
        exact J122
      ·
        refine v_aload_n X 0 dX7_count_125 rfl rfl ?_
        refine v_getI (i := iSM) (k := 4) X (lt_SM ) (sh_SM ) rfl in_SM (by decide) wf_SM_33 rfl (fun _ => rfl) dX7_count_126 ?_
        refine v_goto (tgt := 133) X dX7_count_129 (by decide) ?_
        have e9 : (((if (σ iSM 2) = 0 then 0 else (σ iSM 4)) : Int32) : Int32) = (σ iSM 4) := by simp only [if_neg h122]
        rw [e9] at J122
        exact J122
    have e9 : f_SM_count xa σ = ((if (σ iSM 2) = 0 then 0 else (σ iSM 4)) : Int32) := by simp only [f_SM_count, if_neg h1_0, if_neg h1_1, if_neg h1_2, if_neg h1_3, if_pos h1_4]
    exact v_endI hend dX7_count_133 e9 rfl
  by_cases h1_5 : xa = 5
  ·
    refine v_tswI (off := 133) X 5 134 h1_5 dX7_count_1 (by decide) (by decide) ?_
    refine v_aload_n X 0 dX7_count_134 rfl rfl ?_
    refine v_getI (i := iSM) (k := 2) X (lt_SM ) (sh_SM ) rfl in_SM (by decide) wf_SM_25 rfl (fun _ => rfl) dX7_count_135 ?_
    refine v_suff (pc2 := 152) (lv2 := [(0, .ref (rh iSM)), (1, .int xa)]) (st2 := [.int ((if (σ iSM 2) = 0 then 0 else (σ iTT 5)) : Int32)]) (σ2 := σ) ?_ (fun J138 => ?_)
    rotate_left
    ·
      refine v_if_eq X 151 dX7_count_138 (by decide) (fun h138 => ?_) (fun h138 => ?_)
      ·
        refine v_iconst (v := 0) X dX7_count_151 (by decide) ?_
        have e9 : (((if (σ iSM 2) = 0 then 0 else (σ iTT 5)) : Int32) : Int32) = 0 := by simp only [if_pos h138]
        rw [e9] at J138
        exact J138
      ·
        refine v_aload_n X 0 dX7_count_141 rfl rfl ?_
        refine v_getR (j := iTT) (i := iSM) (k := 1) X (lt_SM ) (sh_SM ) rfl in_SM (by decide) wf_SM_21 rfl (fun _ => rfl) dX7_count_142 ?_
        refine v_getI (i := iTT) (k := 5) X (lt_TT ) (sh_TT ) rfl in_TT (by decide) wf_SM_156 rfl (fun _ => rfl) dX7_count_145 ?_
        refine v_goto (tgt := 152) X dX7_count_148 (by decide) ?_
        have e9 : (((if (σ iSM 2) = 0 then 0 else (σ iTT 5)) : Int32) : Int32) = (σ iTT 5) := by simp only [if_neg h138]
        rw [e9] at J138
        exact J138
    have e9 : f_SM_count xa σ = ((if (σ iSM 2) = 0 then 0 else (σ iTT 5)) : Int32) := by simp only [f_SM_count, if_neg h1_0, if_neg h1_1, if_neg h1_2, if_neg h1_3, if_neg h1_4, if_pos h1_5]
    exact v_endI hend dX7_count_152 e9 rfl
  by_cases h1_6 : xa = 6
  ·
    refine v_tswI (off := 152) X 6 153 h1_6 dX7_count_1 (by decide) (by decide) ?_
    refine v_aload_n X 0 dX7_count_153 rfl rfl ?_
    refine v_getR (j := iTT) (i := iSM) (k := 1) X (lt_SM ) (sh_SM ) rfl in_SM (by decide) wf_SM_21 rfl (fun _ => rfl) dX7_count_154 ?_
    refine v_getI (i := iTT) (k := 2) X (lt_TT ) (sh_TT ) rfl in_TT (by decide) wf_SM_79 rfl (fun _ => rfl) dX7_count_157 ?_
    have e9 : f_SM_count xa σ = (σ iTT 2) := by simp only [f_SM_count, if_neg h1_0, if_neg h1_1, if_neg h1_2, if_neg h1_3, if_neg h1_4, if_neg h1_5, if_pos h1_6]
    exact v_endI hend dX7_count_160 e9 rfl
  by_cases h1_7 : xa = 7
  ·
    refine v_tswI (off := 160) X 7 161 h1_7 dX7_count_1 (by decide) (by decide) ?_
    refine v_aload_n X 0 dX7_count_161 rfl rfl ?_
    refine v_getI (i := iSM) (k := 3) X (lt_SM ) (sh_SM ) rfl in_SM (by decide) wf_SM_29 rfl (fun _ => rfl) dX7_count_162 ?_
    have e9 : f_SM_count xa σ = (σ iSM 3) := by simp only [f_SM_count, if_neg h1_0, if_neg h1_1, if_neg h1_2, if_neg h1_3, if_neg h1_4, if_neg h1_5, if_neg h1_6, if_pos h1_7]
    exact v_endI hend dX7_count_165 e9 rfl
  refine v_tswO X 166 dX7_count_1 (by have g0 := lv_neT (a := 0) h1_0 (by decide); have g1 := lv_neT (a := 1) h1_1 (by decide); have g2 := lv_neT (a := 2) h1_2 (by decide); have g3 := lv_neT (a := 3) h1_3 (by decide); have g4 := lv_neT (a := 4) h1_4 (by decide); have g5 := lv_neT (a := 5) h1_5 (by decide); have g6 := lv_neT (a := 6) h1_6 (by decide); have g7 := lv_neT (a := 7) h1_7 (by decide); omega) (by decide) ?_
  refine v_iconst (v := (-1)) X dX7_count_166 (by decide) ?_
  have e9 : f_SM_count xa σ = (-1) := by simp only [f_SM_count, if_neg h1_0, if_neg h1_1, if_neg h1_2, if_neg h1_3, if_neg h1_4, if_neg h1_5, if_neg h1_6, if_neg h1_7]
  exact v_endI hend dX7_count_167 e9 rfl
end CLS
