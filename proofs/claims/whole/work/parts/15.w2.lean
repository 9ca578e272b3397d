theorem ic_ite {c : Prop} [Decidable c] {a b : St} (ha : c → Ic a) (hb : ¬ c → Ic b) : Ic (if c then a else b) := by
  split
  · exact ha (by assumption)
  · exact hb (by assumption)
theorem ic_ite2 {c : Prop} [Decidable c] {α : Type} {a b : α × St} (ha : c → Ic a.2) (hb : ¬ c → Ic b.2) : Ic (if c then a else b).2 := by
  split
  · exact ha (by assumption)
  · exact hb (by assumption)
theorem mf_PT_clearRegisters : MF yX3_clearRegisters cX3_clearRegisters 2 none 0 := ⟨gw_of (by decide +kernel) rfl, gw_of (by decide +kernel) rfl, by decide +kernel, by decide +kernel, by decide +kernel⟩
theorem mf_PT_measured : MF yX3_measured cX3_measured 3 (some .int) 0 := ⟨gw_of (by decide +kernel) rfl, gw_of (by decide +kernel) rfl, by decide +kernel, by decide +kernel, by decide +kernel⟩
theorem mf_PT_restart : MF yX3_restart cX3_restart 2 none 1 := ⟨gw_of (by decide +kernel) rfl, gw_of (by decide +kernel) rfl, by decide +kernel, by decide +kernel, by decide +kernel⟩
theorem mf_SM_mix : MF yX7_mix cX7_mix 3 (some .int) 2 := ⟨gw_of (by decide +kernel) rfl, gw_of (by decide +kernel) rfl, by decide +kernel, by decide +kernel, by decide +kernel⟩
theorem mf_TT_begin : MF yX6_begin cX6_begin 2 none 1 := ⟨gw_of (by decide +kernel) rfl, gw_of (by decide +kernel) rfl, by decide +kernel, by decide +kernel, by decide +kernel⟩
theorem wac_i : Cond.initialized "java/lang/System" ∈ gw := gw_of (by decide +kernel) rfl
theorem wac_n : Cond.native arraycopyName ∈ gw := gw_of (by decide +kernel) rfl
theorem wac_s : Cond.static arraycopyName ∈ gw := gw_of (by decide +kernel) rfl
theorem wf_PT_15 : Cond.fieldLink RX3 15 RX3 "first" "I" ∈ gw := gw_of (by decide +kernel) rfl
theorem wf_PT_18 : Cond.fieldLink RX3 18 RX3 "size" "I" ∈ gw := gw_of (by decide +kernel) rfl
theorem wf_PT_21 : Cond.fieldLink RX3 21 RX3 "how" "I" ∈ gw := gw_of (by decide +kernel) rfl
theorem wf_PT_24 : Cond.fieldLink RX3 24 RX3 "measurement" "I" ∈ gw := gw_of (by decide +kernel) rfl
theorem wf_PT_27 : Cond.fieldLink RX3 27 RX3 "pc" "I" ∈ gw := gw_of (by decide +kernel) rfl
theorem wf_PT_30 : Cond.fieldLink RX3 30 RX3 "ready" "Z" ∈ gw := gw_of (by decide +kernel) rfl
theorem wf_PT_34 : Cond.fieldLink RX3 34 RX3 "resting" "Z" ∈ gw := gw_of (by decide +kernel) rfl
theorem wf_PT_37 : Cond.fieldLink RX3 37 RX3 "registers" "[I" ∈ gw := gw_of (by decide +kernel) rfl
theorem wf_PT_41 : Cond.fieldLink RX3 41 RX3 "image" "[I" ∈ gw := gw_of (by decide +kernel) rfl
theorem wf_PT_44 : Cond.fieldLink RX3 44 RX3 "faults" "I" ∈ gw := gw_of (by decide +kernel) rfl
theorem wf_PT_47 : Cond.fieldLink RX3 47 RX3 "latestFault" "I" ∈ gw := gw_of (by decide +kernel) rfl
theorem wf_PT_50 : Cond.fieldLink RX3 50 RX3 "restarts" "I" ∈ gw := gw_of (by decide +kernel) rfl
theorem wf_PT_53 : Cond.fieldLink RX3 53 RX3 "begun" "I" ∈ gw := gw_of (by decide +kernel) rfl
theorem wf_TT_15 : Cond.fieldLink RX6 15 RX6 "lengths" "[I" ∈ gw := gw_of (by decide +kernel) rfl
theorem wf_TT_18 : Cond.fieldLink RX6 18 RX6 "size" "I" ∈ gw := gw_of (by decide +kernel) rfl
theorem wf_TT_22 : Cond.fieldLink RX6 22 RX6 "current" "I" ∈ gw := gw_of (by decide +kernel) rfl
theorem wf_TT_25 : Cond.fieldLink RX6 25 RX6 "left" "I" ∈ gw := gw_of (by decide +kernel) rfl
theorem wf_TT_28 : Cond.fieldLink RX6 28 RX6 "begun" "I" ∈ gw := gw_of (by decide +kernel) rfl
theorem wf_TT_9 : Cond.fieldLink RX6 9 RX6 "partitions" "[I" ∈ gw := gw_of (by decide +kernel) rfl
theorem wi_PT_clearRegisters : Cond.instanceMethod yX3_clearRegisters ∈ gw := gw_of (by decide +kernel) rfl
theorem wi_PT_measured : Cond.instanceMethod yX3_measured ∈ gw := gw_of (by decide +kernel) rfl
theorem wi_PT_restart : Cond.instanceMethod yX3_restart ∈ gw := gw_of (by decide +kernel) rfl
theorem wi_TT_begin : Cond.instanceMethod yX6_begin ∈ gw := gw_of (by decide +kernel) rfl
theorem wl_PT_clearRegisters : Cond.selects yX3_clearRegisters.cls yX3_clearRegisters yX3_clearRegisters ∈ gw := gw_of (by decide +kernel) rfl
theorem wl_PT_measured : Cond.selects yX3_measured.cls yX3_measured yX3_measured ∈ gw := gw_of (by decide +kernel) rfl
theorem wl_PT_restart : Cond.selects yX3_restart.cls yX3_restart yX3_restart ∈ gw := gw_of (by decide +kernel) rfl
theorem wl_TT_begin : Cond.selects yX6_begin.cls yX6_begin yX6_begin ∈ gw := gw_of (by decide +kernel) rfl
theorem wm_PT_56 : Cond.methodLink RX3 56 yX3_clearRegisters ∈ gw := gw_of (by decide +kernel) rfl
theorem wm_PT_59 : Cond.methodLink RX3 59 arraycopyName ∈ gw := gw_of (by decide +kernel) rfl
theorem wm_PT_65 : Cond.methodLink RX3 65 yX3_measured ∈ gw := gw_of (by decide +kernel) rfl
theorem wm_PT_77 : Cond.methodLink RX3 77 yX3_restart ∈ gw := gw_of (by decide +kernel) rfl
theorem wm_TT_31 : Cond.methodLink RX6 31 yX6_begin ∈ gw := gw_of (by decide +kernel) rfl
theorem wn_PT_69 : Cond.methodLinkNest RX3 69 yX7_mix RX7 ∈ nw := nw_of (by decide +kernel) rfl
theorem wn_PT_73 : Cond.methodLinkNest RX3 73 yX7_within RX7 ∈ nw := nw_of (by decide +kernel) rfl
theorem ws_SM_mix : Cond.static yX7_mix ∈ gw := gw_of (by decide +kernel) rfl
