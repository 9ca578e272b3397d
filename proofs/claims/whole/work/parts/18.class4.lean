theorem mf_CH_age : MF yX0_age cX0_age 2 (some .int) 1 := ⟨gw_of (by decide +kernel) rfl, gw_of (by decide +kernel) rfl, by decide +kernel, by decide +kernel, by decide +kernel⟩
theorem mf_CH_valueOrZero : MF yX0_valueOrZero cX0_valueOrZero 1 (some .int) 0 := ⟨gw_of (by decide +kernel) rfl, gw_of (by decide +kernel) rfl, by decide +kernel, by decide +kernel, by decide +kernel⟩
theorem mf_CH_write : MF yX0_write cX0_write 3 none 2 := ⟨gw_of (by decide +kernel) rfl, gw_of (by decide +kernel) rfl, by decide +kernel, by decide +kernel, by decide +kernel⟩
theorem mf_CO_immediateB : MF yX1_immediateB cX1_immediateB 1 (some .int) 1 := ⟨gw_of (by decide +kernel) rfl, gw_of (by decide +kernel) rfl, by decide +kernel, by decide +kernel, by decide +kernel⟩
theorem mf_CO_immediateI : MF yX1_immediateI cX1_immediateI 1 (some .int) 1 := ⟨gw_of (by decide +kernel) rfl, gw_of (by decide +kernel) rfl, by decide +kernel, by decide +kernel, by decide +kernel⟩
theorem mf_CO_immediateJ : MF yX1_immediateJ cX1_immediateJ 1 (some .int) 1 := ⟨gw_of (by decide +kernel) rfl, gw_of (by decide +kernel) rfl, by decide +kernel, by decide +kernel, by decide +kernel⟩
theorem mf_CO_immediateS : MF yX1_immediateS cX1_immediateS 1 (some .int) 1 := ⟨gw_of (by decide +kernel) rfl, gw_of (by decide +kernel) rfl, by decide +kernel, by decide +kernel, by decide +kernel⟩
theorem mf_CO_immediateU : MF yX1_immediateU cX1_immediateU 1 (some .int) 1 := ⟨gw_of (by decide +kernel) rfl, gw_of (by decide +kernel) rfl, by decide +kernel, by decide +kernel, by decide +kernel⟩
theorem mf_CO_isKnown : MF yX1_isKnown cX1_isKnown 4 (some .boolean) 1 := ⟨gw_of (by decide +kernel) rfl, gw_of (by decide +kernel) rfl, by decide +kernel, by decide +kernel, by decide +kernel⟩
theorem mf_MA_channelAt : MF yX2_channelAt cX2_channelAt 1 (some .int) 1 := ⟨gw_of (by decide +kernel) rfl, gw_of (by decide +kernel) rfl, by decide +kernel, by decide +kernel, by decide +kernel⟩
theorem mf_MA_execute : MF yX2_execute cX2_execute 8 (some .int) 2 := ⟨gw_of (by decide +kernel) rfl, gw_of (by decide +kernel) rfl, by decide +kernel, by decide +kernel, by decide +kernel⟩
theorem mf_MA_fetchFault : MF yX2_fetchFault cX2_fetchFault 1 (some .int) 1 := ⟨gw_of (by decide +kernel) rfl, gw_of (by decide +kernel) rfl, by decide +kernel, by decide +kernel, by decide +kernel⟩
theorem mf_MA_isReadable : MF yX2_isReadable cX2_isReadable 3 (some .boolean) 2 := ⟨gw_of (by decide +kernel) rfl, gw_of (by decide +kernel) rfl, by decide +kernel, by decide +kernel, by decide +kernel⟩
theorem mf_MA_jump : MF yX2_jump cX2_jump 4 (some .int) 3 := ⟨gw_of (by decide +kernel) rfl, gw_of (by decide +kernel) rfl, by decide +kernel, by decide +kernel, by decide +kernel⟩
theorem mf_MA_open : MF yX2_open cX2_open 5 (some .int) 2 := ⟨gw_of (by decide +kernel) rfl, gw_of (by decide +kernel) rfl, by decide +kernel, by decide +kernel, by decide +kernel⟩
theorem mf_MA_readInto : MF yX2_readInto cX2_readInto 5 (some .int) 3 := ⟨gw_of (by decide +kernel) rfl, gw_of (by decide +kernel) rfl, by decide +kernel, by decide +kernel, by decide +kernel⟩
theorem mf_MA_seal : MF yX2_seal cX2_seal 4 (some .int) 3 := ⟨gw_of (by decide +kernel) rfl, gw_of (by decide +kernel) rfl, by decide +kernel, by decide +kernel, by decide +kernel⟩
theorem mf_MA_serve : MF yX2_serve cX2_serve 2 (some .int) 1 := ⟨gw_of (by decide +kernel) rfl, gw_of (by decide +kernel) rfl, by decide +kernel, by decide +kernel, by decide +kernel⟩
theorem mf_MA_tellAge : MF yX2_tellAge cX2_tellAge 3 (some .int) 2 := ⟨gw_of (by decide +kernel) rfl, gw_of (by decide +kernel) rfl, by decide +kernel, by decide +kernel, by decide +kernel⟩
theorem mf_MA_write : MF yX2_write cX2_write 5 (some .int) 3 := ⟨gw_of (by decide +kernel) rfl, gw_of (by decide +kernel) rfl, by decide +kernel, by decide +kernel, by decide +kernel⟩
theorem mf_PT_get : MF yX3_get cX3_get 2 (some .int) 1 := ⟨gw_of (by decide +kernel) rfl, gw_of (by decide +kernel) rfl, by decide +kernel, by decide +kernel, by decide +kernel⟩
theorem mf_PT_noteBegun : MF yX3_noteBegun cX3_noteBegun 1 none 0 := ⟨gw_of (by decide +kernel) rfl, gw_of (by decide +kernel) rfl, by decide +kernel, by decide +kernel, by decide +kernel⟩
theorem mf_PT_put : MF yX3_put cX3_put 3 none 2 := ⟨gw_of (by decide +kernel) rfl, gw_of (by decide +kernel) rfl, by decide +kernel, by decide +kernel, by decide +kernel⟩
theorem mf_PT_suffer : MF yX3_suffer cX3_suffer 3 none 2 := ⟨gw_of (by decide +kernel) rfl, gw_of (by decide +kernel) rfl, by decide +kernel, by decide +kernel, by decide +kernel⟩
theorem mf_RE_branches : MF yX4_branches cX4_branches 3 (some .boolean) 3 := ⟨gw_of (by decide +kernel) rfl, gw_of (by decide +kernel) rfl, by decide +kernel, by decide +kernel, by decide +kernel⟩
theorem mf_RE_combined : MF yX4_combined cX4_combined 4 (some .int) 4 := ⟨gw_of (by decide +kernel) rfl, gw_of (by decide +kernel) rfl, by decide +kernel, by decide +kernel, by decide +kernel⟩
theorem mf_SM_isChannel : MF yX7_isChannel cX7_isChannel 1 (some .boolean) 1 := ⟨gw_of (by decide +kernel) rfl, gw_of (by decide +kernel) rfl, by decide +kernel, by decide +kernel, by decide +kernel⟩
theorem wf_MA_178 : Cond.fieldLink RX2 178 RX0 "source" "I" ∈ gw := gw_of (by decide +kernel) rfl
theorem wf_MA_189 : Cond.fieldLink RX2 189 RX3 "resting" "Z" ∈ gw := gw_of (by decide +kernel) rfl
theorem wf_MA_207 : Cond.fieldLink RX2 207 RX5 "held" "I" ∈ gw := gw_of (by decide +kernel) rfl
theorem wf_MA_210 : Cond.fieldLink RX2 210 RX5 "mark" "I" ∈ gw := gw_of (by decide +kernel) rfl
theorem wf_MA_37 : Cond.fieldLink RX2 37 RX2 "slots" "[LSeparationMonitor$Slot;" ∈ gw := gw_of (by decide +kernel) rfl
theorem wf_MA_45 : Cond.fieldLink RX2 45 RX2 "next" "I" ∈ gw := gw_of (by decide +kernel) rfl
theorem wf_MA_80 : Cond.fieldLink RX2 80 RX3 "first" "I" ∈ gw := gw_of (by decide +kernel) rfl
theorem wf_MA_9 : Cond.fieldLink RX2 9 RX2 "key" "I" ∈ gw := gw_of (by decide +kernel) rfl
theorem wi_CH_age : Cond.instanceMethod yX0_age ∈ gw := gw_of (by decide +kernel) rfl
theorem wi_CH_valueOrZero : Cond.instanceMethod yX0_valueOrZero ∈ gw := gw_of (by decide +kernel) rfl
theorem wi_CH_write : Cond.instanceMethod yX0_write ∈ gw := gw_of (by decide +kernel) rfl
theorem wi_MA_execute : Cond.instanceMethod yX2_execute ∈ gw := gw_of (by decide +kernel) rfl
theorem wi_MA_isReadable : Cond.instanceMethod yX2_isReadable ∈ gw := gw_of (by decide +kernel) rfl
theorem wi_MA_jump : Cond.instanceMethod yX2_jump ∈ gw := gw_of (by decide +kernel) rfl
theorem wi_MA_open : Cond.instanceMethod yX2_open ∈ gw := gw_of (by decide +kernel) rfl
theorem wi_MA_readInto : Cond.instanceMethod yX2_readInto ∈ gw := gw_of (by decide +kernel) rfl
theorem wi_MA_seal : Cond.instanceMethod yX2_seal ∈ gw := gw_of (by decide +kernel) rfl
theorem wi_MA_serve : Cond.instanceMethod yX2_serve ∈ gw := gw_of (by decide +kernel) rfl
theorem wi_MA_tellAge : Cond.instanceMethod yX2_tellAge ∈ gw := gw_of (by decide +kernel) rfl
theorem wi_MA_write : Cond.instanceMethod yX2_write ∈ gw := gw_of (by decide +kernel) rfl
theorem wi_PT_get : Cond.instanceMethod yX3_get ∈ gw := gw_of (by decide +kernel) rfl
theorem wi_PT_noteBegun : Cond.instanceMethod yX3_noteBegun ∈ gw := gw_of (by decide +kernel) rfl
theorem wi_PT_put : Cond.instanceMethod yX3_put ∈ gw := gw_of (by decide +kernel) rfl
theorem wi_PT_suffer : Cond.instanceMethod yX3_suffer ∈ gw := gw_of (by decide +kernel) rfl
theorem wl_CH_age : Cond.selects yX0_age.cls yX0_age yX0_age ∈ gw := gw_of (by decide +kernel) rfl
theorem wl_CH_valueOrZero : Cond.selects yX0_valueOrZero.cls yX0_valueOrZero yX0_valueOrZero ∈ gw := gw_of (by decide +kernel) rfl
theorem wl_CH_write : Cond.selects yX0_write.cls yX0_write yX0_write ∈ gw := gw_of (by decide +kernel) rfl
theorem wl_MA_execute : Cond.selects yX2_execute.cls yX2_execute yX2_execute ∈ gw := gw_of (by decide +kernel) rfl
theorem wl_MA_isReadable : Cond.selects yX2_isReadable.cls yX2_isReadable yX2_isReadable ∈ gw := gw_of (by decide +kernel) rfl
theorem wl_MA_jump : Cond.selects yX2_jump.cls yX2_jump yX2_jump ∈ gw := gw_of (by decide +kernel) rfl
theorem wl_MA_open : Cond.selects yX2_open.cls yX2_open yX2_open ∈ gw := gw_of (by decide +kernel) rfl
theorem wl_MA_readInto : Cond.selects yX2_readInto.cls yX2_readInto yX2_readInto ∈ gw := gw_of (by decide +kernel) rfl
theorem wl_MA_seal : Cond.selects yX2_seal.cls yX2_seal yX2_seal ∈ gw := gw_of (by decide +kernel) rfl
theorem wl_MA_serve : Cond.selects yX2_serve.cls yX2_serve yX2_serve ∈ gw := gw_of (by decide +kernel) rfl
theorem wl_MA_tellAge : Cond.selects yX2_tellAge.cls yX2_tellAge yX2_tellAge ∈ gw := gw_of (by decide +kernel) rfl
theorem wl_MA_write : Cond.selects yX2_write.cls yX2_write yX2_write ∈ gw := gw_of (by decide +kernel) rfl
theorem wl_PT_get : Cond.selects yX3_get.cls yX3_get yX3_get ∈ gw := gw_of (by decide +kernel) rfl
theorem wl_PT_noteBegun : Cond.selects yX3_noteBegun.cls yX3_noteBegun yX3_noteBegun ∈ gw := gw_of (by decide +kernel) rfl
theorem wl_PT_put : Cond.selects yX3_put.cls yX3_put yX3_put ∈ gw := gw_of (by decide +kernel) rfl
theorem wl_PT_suffer : Cond.selects yX3_suffer.cls yX3_suffer yX3_suffer ∈ gw := gw_of (by decide +kernel) rfl
theorem wm_MA_100 : Cond.methodLink RX2 100 yX1_rd ∈ gw := gw_of (by decide +kernel) rfl
theorem wm_MA_104 : Cond.methodLink RX2 104 yX1_f ∈ gw := gw_of (by decide +kernel) rfl
theorem wm_MA_107 : Cond.methodLink RX2 107 yX1_rs1 ∈ gw := gw_of (by decide +kernel) rfl
theorem wm_MA_110 : Cond.methodLink RX2 110 yX3_get ∈ gw := gw_of (by decide +kernel) rfl
theorem wm_MA_113 : Cond.methodLink RX2 113 yX1_rs2 ∈ gw := gw_of (by decide +kernel) rfl
theorem wm_MA_116 : Cond.methodLink RX2 116 yX1_g ∈ gw := gw_of (by decide +kernel) rfl
theorem wm_MA_119 : Cond.methodLink RX2 119 yX1_o ∈ gw := gw_of (by decide +kernel) rfl
theorem wm_MA_122 : Cond.methodLink RX2 122 yX1_immediateU ∈ gw := gw_of (by decide +kernel) rfl
theorem wm_MA_125 : Cond.methodLink RX2 125 yX3_put ∈ gw := gw_of (by decide +kernel) rfl
theorem wm_MA_129 : Cond.methodLink RX2 129 yX1_immediateJ ∈ gw := gw_of (by decide +kernel) rfl
theorem wm_MA_132 : Cond.methodLink RX2 132 yX2_jump ∈ gw := gw_of (by decide +kernel) rfl
theorem wm_MA_136 : Cond.methodLink RX2 136 yX1_immediateI ∈ gw := gw_of (by decide +kernel) rfl
theorem wm_MA_139 : Cond.methodLink RX2 139 yX4_branches ∈ gw := gw_of (by decide +kernel) rfl
theorem wm_MA_145 : Cond.methodLink RX2 145 yX1_immediateB ∈ gw := gw_of (by decide +kernel) rfl
theorem wm_MA_148 : Cond.methodLink RX2 148 yX2_readInto ∈ gw := gw_of (by decide +kernel) rfl
theorem wm_MA_151 : Cond.methodLink RX2 151 yX1_immediateS ∈ gw := gw_of (by decide +kernel) rfl
theorem wm_MA_154 : Cond.methodLink RX2 154 yX2_write ∈ gw := gw_of (by decide +kernel) rfl
theorem wm_MA_157 : Cond.methodLink RX2 157 yX4_combined ∈ gw := gw_of (by decide +kernel) rfl
theorem wm_MA_161 : Cond.methodLink RX2 161 yX2_serve ∈ gw := gw_of (by decide +kernel) rfl
theorem wm_MA_164 : Cond.methodLink RX2 164 yX2_channelAt ∈ gw := gw_of (by decide +kernel) rfl
theorem wm_MA_167 : Cond.methodLink RX2 167 yX2_isReadable ∈ gw := gw_of (by decide +kernel) rfl
theorem wm_MA_171 : Cond.methodLink RX2 171 yX0_valueOrZero ∈ gw := gw_of (by decide +kernel) rfl
theorem wm_MA_184 : Cond.methodLink RX2 184 yX0_write ∈ gw := gw_of (by decide +kernel) rfl
theorem wm_MA_192 : Cond.methodLink RX2 192 yX2_tellAge ∈ gw := gw_of (by decide +kernel) rfl
theorem wm_MA_195 : Cond.methodLink RX2 195 yX2_seal ∈ gw := gw_of (by decide +kernel) rfl
theorem wm_MA_198 : Cond.methodLink RX2 198 yX2_open ∈ gw := gw_of (by decide +kernel) rfl
theorem wm_MA_201 : Cond.methodLink RX2 201 yX0_age ∈ gw := gw_of (by decide +kernel) rfl
theorem wm_MA_70 : Cond.methodLink RX2 70 yX3_noteBegun ∈ gw := gw_of (by decide +kernel) rfl
theorem wm_MA_76 : Cond.methodLink RX2 76 yX2_fetchFault ∈ gw := gw_of (by decide +kernel) rfl
theorem wm_MA_83 : Cond.methodLink RX2 83 yX2_execute ∈ gw := gw_of (by decide +kernel) rfl
theorem wm_MA_87 : Cond.methodLink RX2 87 yX3_suffer ∈ gw := gw_of (by decide +kernel) rfl
theorem wm_MA_95 : Cond.methodLink RX2 95 yX1_isKnown ∈ gw := gw_of (by decide +kernel) rfl
theorem wn_MA_175 : Cond.methodLinkNest RX2 175 yX7_isChannel RX7 ∈ nw := nw_of (by decide +kernel) rfl
theorem wn_MA_204 : Cond.methodLinkNest RX2 204 yX7_within RX7 ∈ nw := nw_of (by decide +kernel) rfl
theorem ws_CO_immediateB : Cond.static yX1_immediateB ∈ gw := gw_of (by decide +kernel) rfl
theorem ws_CO_immediateI : Cond.static yX1_immediateI ∈ gw := gw_of (by decide +kernel) rfl
theorem ws_CO_immediateJ : Cond.static yX1_immediateJ ∈ gw := gw_of (by decide +kernel) rfl
theorem ws_CO_immediateS : Cond.static yX1_immediateS ∈ gw := gw_of (by decide +kernel) rfl
theorem ws_CO_immediateU : Cond.static yX1_immediateU ∈ gw := gw_of (by decide +kernel) rfl
theorem ws_CO_isKnown : Cond.static yX1_isKnown ∈ gw := gw_of (by decide +kernel) rfl
theorem ws_MA_channelAt : Cond.static yX2_channelAt ∈ gw := gw_of (by decide +kernel) rfl
theorem ws_MA_fetchFault : Cond.static yX2_fetchFault ∈ gw := gw_of (by decide +kernel) rfl
theorem ws_RE_branches : Cond.static yX4_branches ∈ gw := gw_of (by decide +kernel) rfl
theorem ws_RE_combined : Cond.static yX4_combined ∈ gw := gw_of (by decide +kernel) rfl
theorem ws_SM_isChannel : Cond.static yX7_isChannel ∈ gw := gw_of (by decide +kernel) rfl
section CLS
variable {l : Launch} {D : va_G} {rh : Nat → Nat} {cA : Nat → ClassId}
def f_MA_jump (p : Nat) (xb : Int32) (xc : Int32) (σ : St) : Int32 × St :=
  (0, (up (f_PT_put p xb ((σ (iP p) 5) + 4) σ) iMA 6 xc))
set_option maxHeartbeats 4000000 in
set_option maxRecDepth 100000 in
theorem c_MA_jump {p : Nat} (hp : p < 4) (xb : Int32) (xc : Int32) (σ : St) : CI l D (tyL cA) rh (rcW rh cA) NW yX2_jump cX2_jump 4 .int 1 [.ref (rh iMA), .ref (rh (iP p)), .int xb, .int xc] σ (f_MA_jump p xb xc σ).1 (f_MA_jump p xb xc σ).2 := by
  refine CI.of rfl (Nat.le_of_ble_eq_true rfl) rfl ?_
  intro p9 e s m args below meth c A Q X hend
  refine v_lv (lv' := [(0, .ref (rh iMA)), (1, .ref (rh (iP p))), (2, .int xb), (3, .int xc)]) [0, 1, 2, 3] rfl ?_
  refine v_aload_n X 1 dX2_jump_0 rfl rfl ?_
  refine v_iload_n X 2 dX2_jump_1 rfl rfl ?_
  refine v_aload_n X 1 dX2_jump_2 rfl rfl ?_
  refine v_getI (i := (iP p)) (k := 5) X (lt_PT hp) (sh_PT hp) rfl in_PT (by decide) wf_MA_73 rfl (fun _ => rfl) dX2_jump_3 ?_
  refine v_iconst (v := 4) X dX2_jump_6 (by decide) ?_
  refine v_iadd X dX2_jump_7 ?_
  refine v_callV_CV (rest := []) X [.int xb, .int ((σ (iP p) 5) + 4)] (c_PT_put hp xb ((σ (iP p) 5) + 4) σ ) mf_PT_put wi_PT_put wl_PT_put (lt_PT hp) (sh_PT hp) rfl wm_MA_125 rfl ⟨by decide, by decide⟩ (Nat.le_of_ble_eq_true rfl) ⟨by decide, by decide⟩ dX2_jump_8 ?_
  generalize hg8 : (f_PT_put p xb ((σ (iP p) 5) + 4) σ) = g8
  refine v_aload_n X 0 dX2_jump_11 rfl rfl ?_
  refine v_iload_n X 3 dX2_jump_12 rfl rfl ?_
  refine v_put (i := iMA) (k := 6) (x := xc) (ty := .int) X (lt_MA ) (sh_MA ) rfl in_MA (by decide) tyX2 tyX2_ok nX2 wf_MA_45 rfl rfl rfl rfl rfl (fun _ => Nat.le_of_ble_eq_true rfl) (fun _ _ => rfl) dX2_jump_13 ?_
  generalize hg13 : (up g8 iMA 6 xc) = g13
  refine v_iconst (v := 0) X dX2_jump_16 (by decide) ?_
  have e9 : f_MA_jump p xb xc σ = (0, g13) := by subst hg8; subst hg13; simp only [f_MA_jump]
  exact v_endI hend dX2_jump_17 (by rw [e9]) (by rw [e9])
theorem I_MA_jump (p : Nat) (xb : Int32) (xc : Int32) {σ : St} (hI : Ic σ) : Ic (f_MA_jump p xb xc σ).2 := by
  unfold f_MA_jump
  exact (Ic.upMA (I_PT_put p xb ((σ (iP p) 5) + 4) hI))
def f_MA_readInto (p : Nat) (xb : Int32) (xc : Int32) (σ : St) : Int32 × St :=
  (if (xc &&& 3) = 0 then (if (f_PT_holds p xc σ) = 0 then (if (f_MA_isReadable (f_MA_channelAt xc) p σ) = 0 then (3, σ) else (0, (f_PT_put p xb (f_CH_valueOrZero ((f_MA_channelAt xc)).toNatClampNeg σ) σ))) else (0, (f_PT_put p xb (σ iWO (((σ (iP p) 1) + (xc / 4))).toNatClampNeg) σ))) else (2, σ))
set_option maxHeartbeats 4000000 in
set_option maxRecDepth 100000 in
theorem c_MA_readInto {p : Nat} (hp : p < 4) (xb : Int32) (xc : Int32) (σ : St) (hI : Ic σ) : CI l D (tyL cA) rh (rcW rh cA) NW yX2_readInto cX2_readInto 5 .int 2 [.ref (rh iMA), .ref (rh (iP p)), .int xb, .int xc] σ (f_MA_readInto p xb xc σ).1 (f_MA_readInto p xb xc σ).2 := by
  refine CI.of rfl (Nat.le_of_ble_eq_true rfl) rfl ?_
  intro p9 e s m args below meth c A Q X hend
  refine v_lv (lv' := [(0, .ref (rh iMA)), (1, .ref (rh (iP p))), (2, .int xb), (3, .int xc)]) [0, 1, 2, 3] rfl ?_
  refine v_iload_n X 3 dX2_readInto_0 rfl rfl ?_
  refine v_iconst (v := 3) X dX2_readInto_1 (by decide) ?_
  refine v_iand X dX2_readInto_2 ?_
  refine v_if_eq X 8 dX2_readInto_3 (by decide) (fun h3 => ?_) (fun h3 => ?_)
  ·
    refine v_aload_n X 1 dX2_readInto_8 rfl rfl ?_
    refine v_iload_n X 3 dX2_readInto_9 rfl rfl ?_
    refine v_callV_CI (rest := []) X [.int xc] (c_PT_holds hp xc σ ) mf_PT_holds wi_PT_holds wl_PT_holds (lt_PT hp) (sh_PT hp) rfl wm_MA_91 rfl ⟨by decide, by decide⟩ (Nat.le_of_ble_eq_true rfl) ⟨by decide, by decide⟩ dX2_readInto_10 ?_
    refine v_if_eq X 36 dX2_readInto_13 (by decide) (fun h13 => ?_) (fun h13 => ?_)
    ·
      refine v_iload_n X 3 dX2_readInto_36 rfl rfl ?_
      refine v_callS_CI (rest := []) X [.int xc] (c_MA_channelAt xc σ ) mf_MA_channelAt ws_MA_channelAt wm_MA_164 rfl ⟨by decide, by decide⟩ (Nat.le_of_ble_eq_true rfl) ⟨by decide, by decide⟩ dX2_readInto_37 ?_
      refine v_istore (lv' := [(4, .int (f_MA_channelAt xc)), (0, .ref (rh iMA)), (1, .ref (rh (iP p))), (2, .int xb), (3, .int xc)]) X dX2_readInto_40 (by decide) rfl ?_
      refine v_aload_n X 1 dX2_readInto_42 rfl rfl ?_
      refine v_iload X 0 dX2_readInto_43 rfl ?_
      refine v_aload_n X 2 dX2_readInto_45 rfl rfl ?_
      refine v_callV_CI (rest := []) X [.int (f_MA_channelAt xc), .ref (rh (iP p))] (c_MA_isReadable (f_MA_channelAt xc) hp σ ) mf_MA_isReadable wi_MA_isReadable wl_MA_isReadable (lt_MA ) (sh_MA ) rfl wm_MA_167 rfl ⟨by decide, by decide⟩ (Nat.le_of_ble_eq_true rfl) ⟨by decide, by decide⟩ dX2_readInto_46 ?_
      refine v_if_ne X 54 dX2_readInto_49 (by decide) (fun h49 => ?_) (fun h49 => ?_)
      ·
        refine v_aload_n X 2 dX2_readInto_54 rfl rfl ?_
        refine v_iload_n X 3 dX2_readInto_55 rfl rfl ?_
        refine v_aload_n X 1 dX2_readInto_56 rfl rfl ?_
        refine v_getR (j := iAC) (i := iMA) (k := 3) X (lt_MA ) (sh_MA ) rfl in_MA (by decide) wf_MA_30 rfl (fun _ => rfl) dX2_readInto_57 ?_
        refine v_iload X 0 dX2_readInto_60 rfl ?_
        have hv62 : vp_in (f_MA_channelAt xc) 4 := (rd_in h49)
        refine v_aald (i := iAC) (t0 := 2) (g := iC) X (lt_ACH ) (sh_ACH ) rfl hv62 dX2_readInto_62 ?_
        refine v_callV_CI (rest := [.int xb, .ref (rh (iP p))]) X [] (c_CH_valueOrZero (vin_lt hv62) σ ) mf_CH_valueOrZero wi_CH_valueOrZero wl_CH_valueOrZero (lt_CH (vin_lt hv62)) (sh_CH (vin_lt hv62)) rfl wm_MA_171 rfl ⟨by decide, by decide⟩ (Nat.le_of_ble_eq_true rfl) ⟨by decide, by decide⟩ dX2_readInto_63 ?_
        refine v_callV_CV (rest := []) X [.int xb, .int (f_CH_valueOrZero ((f_MA_channelAt xc)).toNatClampNeg σ)] (c_PT_put hp xb (f_CH_valueOrZero ((f_MA_channelAt xc)).toNatClampNeg σ) σ ) mf_PT_put wi_PT_put wl_PT_put (lt_PT hp) (sh_PT hp) rfl wm_MA_125 rfl ⟨by decide, by decide⟩ (Nat.le_of_ble_eq_true rfl) ⟨by decide, by decide⟩ dX2_readInto_66 ?_
        generalize hg66 : (f_PT_put p xb (f_CH_valueOrZero ((f_MA_channelAt xc)).toNatClampNeg σ) σ) = g66
        have hI66 : Ic g66 := by rw [← hg66]; exact (I_PT_put p xb (f_CH_valueOrZero ((f_MA_channelAt xc)).toNatClampNeg σ) hI)
        refine v_iconst (v := 0) X dX2_readInto_69 (by decide) ?_
        have e9 : f_MA_readInto p xb xc σ = (0, g66) := by subst hg66; simp only [f_MA_readInto, if_pos h3, if_pos h13, if_neg h49]
        exact v_endI hend dX2_readInto_70 (by rw [e9]) (by rw [e9])
      ·
        refine v_iconst (v := 3) X dX2_readInto_52 (by decide) ?_
        have e9 : f_MA_readInto p xb xc σ = (3, σ) := by simp only [f_MA_readInto, if_pos h3, if_pos h13, if_pos h49]
        exact v_endI hend dX2_readInto_53 (by rw [e9]) (by rw [e9])
    ·
      refine v_aload_n X 1 dX2_readInto_16 rfl rfl ?_
      refine v_iload_n X 2 dX2_readInto_17 rfl rfl ?_
      refine v_aload_n X 0 dX2_readInto_18 rfl rfl ?_
      refine v_getR (j := iWO) (i := iMA) (k := 1) X (lt_MA ) (sh_MA ) rfl in_MA (by decide) wf_MA_15 rfl (fun _ => rfl) dX2_readInto_19 ?_
      refine v_aload_n X 1 dX2_readInto_22 rfl rfl ?_
      refine v_getI (i := (iP p)) (k := 1) X (lt_PT hp) (sh_PT hp) rfl in_PT (by decide) wf_MA_80 rfl (fun _ => rfl) dX2_readInto_23 ?_
      refine v_iload_n X 3 dX2_readInto_26 rfl rfl ?_
      refine v_iconst (v := 4) X dX2_readInto_27 (by decide) ?_
      refine v_idiv X (by decide) dX2_readInto_28 ?_
      refine v_iadd X dX2_readInto_29 ?_
      have hv30 : vp_in ((σ (iP p) 1) + (xc / 4)) 96 := (hold_in hI hp h13)
      refine v_iald (i := iWO) (t0 := 0) X (lt_WO ) (sh_WO ) rfl hv30 dX2_readInto_30 ?_
      refine v_callV_CV (rest := []) X [.int xb, .int (σ iWO (((σ (iP p) 1) + (xc / 4))).toNatClampNeg)] (c_PT_put hp xb (σ iWO (((σ (iP p) 1) + (xc / 4))).toNatClampNeg) σ ) mf_PT_put wi_PT_put wl_PT_put (lt_PT hp) (sh_PT hp) rfl wm_MA_125 rfl ⟨by decide, by decide⟩ (Nat.le_of_ble_eq_true rfl) ⟨by decide, by decide⟩ dX2_readInto_31 ?_
      generalize hg31 : (f_PT_put p xb (σ iWO (((σ (iP p) 1) + (xc / 4))).toNatClampNeg) σ) = g31
      have hI31 : Ic g31 := by rw [← hg31]; exact (I_PT_put p xb (σ iWO (((σ (iP p) 1) + (xc / 4))).toNatClampNeg) hI)
      refine v_iconst (v := 0) X dX2_readInto_34 (by decide) ?_
      have e9 : f_MA_readInto p xb xc σ = (0, g31) := by subst hg31; simp only [f_MA_readInto, if_pos h3, if_neg h13]
      exact v_endI hend dX2_readInto_35 (by rw [e9]) (by rw [e9])
  ·
    refine v_iconst (v := 2) X dX2_readInto_6 (by decide) ?_
    have e9 : f_MA_readInto p xb xc σ = (2, σ) := by simp only [f_MA_readInto, if_neg h3]
    exact v_endI hend dX2_readInto_7 (by rw [e9]) (by rw [e9])
theorem I_MA_readInto (p : Nat) (xb : Int32) (xc : Int32) {σ : St} (hI : Ic σ) : Ic (f_MA_readInto p xb xc σ).2 := by
  unfold f_MA_readInto
  exact (ic_ite2 (fun _ => (ic_ite2 (fun _ => (ic_ite2 (fun _ => hI) (fun _ => (I_PT_put p xb (f_CH_valueOrZero ((f_MA_channelAt xc)).toNatClampNeg σ) hI)))) (fun _ => (I_PT_put p xb (σ iWO (((σ (iP p) 1) + (xc / 4))).toNatClampNeg) hI)))) (fun _ => hI))
def f_MA_write (p : Nat) (xb : Int32) (xc : Int32) (σ : St) : Int32 × St :=
  (if (xb &&& 3) = 0 then (if (f_PT_holds p xb σ) = 0 then (if (f_SM_isChannel (f_MA_channelAt xb)) = 0 then (3, σ) else (if (σ (iC ((f_MA_channelAt xb)).toNatClampNeg) 0) = (σ (iP p) 0) then (0, (f_CH_write ((f_MA_channelAt xb)).toNatClampNeg xc (σ iMA 5) σ)) else (3, σ))) else (0, (up σ iWO (((σ (iP p) 1) + (xb / 4))).toNatClampNeg xc))) else (2, σ))
set_option maxHeartbeats 4000000 in
set_option maxRecDepth 100000 in
theorem c_MA_write {p : Nat} (hp : p < 4) (xb : Int32) (xc : Int32) (σ : St) (hI : Ic σ) : CI l D (tyL cA) rh (rcW rh cA) NW yX2_write cX2_write 5 .int 2 [.ref (rh iMA), .ref (rh (iP p)), .int xb, .int xc] σ (f_MA_write p xb xc σ).1 (f_MA_write p xb xc σ).2 := by
  refine CI.of rfl (Nat.le_of_ble_eq_true rfl) rfl ?_
  intro p9 e s m args below meth c A Q X hend
  refine v_lv (lv' := [(0, .ref (rh iMA)), (1, .ref (rh (iP p))), (2, .int xb), (3, .int xc)]) [0, 1, 2, 3] rfl ?_
  refine v_iload_n X 2 dX2_write_0 rfl rfl ?_
  refine v_iconst (v := 3) X dX2_write_1 (by decide) ?_
  refine v_iand X dX2_write_2 ?_
  refine v_if_eq X 8 dX2_write_3 (by decide) (fun h3 => ?_) (fun h3 => ?_)
  ·
    refine v_aload_n X 1 dX2_write_8 rfl rfl ?_
    refine v_iload_n X 2 dX2_write_9 rfl rfl ?_
    refine v_callV_CI (rest := []) X [.int xb] (c_PT_holds hp xb σ ) mf_PT_holds wi_PT_holds wl_PT_holds (lt_PT hp) (sh_PT hp) rfl wm_MA_91 rfl ⟨by decide, by decide⟩ (Nat.le_of_ble_eq_true rfl) ⟨by decide, by decide⟩ dX2_write_10 ?_
    refine v_if_eq X 32 dX2_write_13 (by decide) (fun h13 => ?_) (fun h13 => ?_)
    ·
      refine v_iload_n X 2 dX2_write_32 rfl rfl ?_
      refine v_callS_CI (rest := []) X [.int xb] (c_MA_channelAt xb σ ) mf_MA_channelAt ws_MA_channelAt wm_MA_164 rfl ⟨by decide, by decide⟩ (Nat.le_of_ble_eq_true rfl) ⟨by decide, by decide⟩ dX2_write_33 ?_
      refine v_istore (lv' := [(4, .int (f_MA_channelAt xb)), (0, .ref (rh iMA)), (1, .ref (rh (iP p))), (2, .int xb), (3, .int xc)]) X dX2_write_36 (by decide) rfl ?_
      refine v_iload X 0 dX2_write_38 rfl ?_
      refine v_callSN_CI (rest := []) X [.int (f_MA_channelAt xb)] (c_SM_isChannel (f_MA_channelAt xb) σ ) mf_SM_isChannel ws_SM_isChannel wn_MA_175 rfl ⟨by decide, by decide⟩ (Nat.le_of_ble_eq_true rfl) ⟨by decide, by decide⟩ dX2_write_40 ?_
      refine v_if_eq X 63 dX2_write_43 (by decide) (fun h43 => ?_) (fun h43 => ?_)
      ·
        refine v_iconst (v := 3) X dX2_write_63 (by decide) ?_
        have e9 : f_MA_write p xb xc σ = (3, σ) := by simp only [f_MA_write, if_pos h3, if_pos h13, if_pos h43]
        exact v_endI hend dX2_write_64 (by rw [e9]) (by rw [e9])
      ·
        refine v_aload_n X 1 dX2_write_46 rfl rfl ?_
        refine v_getR (j := iAC) (i := iMA) (k := 3) X (lt_MA ) (sh_MA ) rfl in_MA (by decide) wf_MA_30 rfl (fun _ => rfl) dX2_write_47 ?_
        refine v_iload X 0 dX2_write_50 rfl ?_
        have hv52 : vp_in (f_MA_channelAt xb) 4 := (ch_in h43)
        refine v_aald (i := iAC) (t0 := 2) (g := iC) X (lt_ACH ) (sh_ACH ) rfl hv52 dX2_write_52 ?_
        refine v_getI (i := (iC ((f_MA_channelAt xb)).toNatClampNeg)) (k := 0) X (lt_CH (vin_lt hv52)) (sh_CH (vin_lt hv52)) rfl in_CH (by decide) wf_MA_178 rfl (fun _ => rfl) dX2_write_53 ?_
        refine v_aload_n X 2 dX2_write_56 rfl rfl ?_
        refine v_getI (i := (iP p)) (k := 0) X (lt_PT hp) (sh_PT hp) rfl in_PT (by decide) wf_MA_181 rfl (fun _ => rfl) dX2_write_57 ?_
        refine v_icmp_eq X 65 dX2_write_60 (by decide) (fun h60 => ?_) (fun h60 => ?_)
        ·
          refine v_aload_n X 1 dX2_write_65 rfl rfl ?_
          refine v_getR (j := iAC) (i := iMA) (k := 3) X (lt_MA ) (sh_MA ) rfl in_MA (by decide) wf_MA_30 rfl (fun _ => rfl) dX2_write_66 ?_
          refine v_iload X 0 dX2_write_69 rfl ?_
          have hv71 : vp_in (f_MA_channelAt xb) 4 := (ch_in h43)
          refine v_aald (i := iAC) (t0 := 2) (g := iC) X (lt_ACH ) (sh_ACH ) rfl hv71 dX2_write_71 ?_
          refine v_iload_n X 4 dX2_write_72 rfl rfl ?_
          refine v_aload_n X 1 dX2_write_73 rfl rfl ?_
          refine v_getI (i := iMA) (k := 5) X (lt_MA ) (sh_MA ) rfl in_MA (by decide) wf_MA_42 rfl (fun _ => rfl) dX2_write_74 ?_
          refine v_callV_CV (rest := []) X [.int xc, .int (σ iMA 5)] (c_CH_write (vin_lt hv71) xc (σ iMA 5) σ ) mf_CH_write wi_CH_write wl_CH_write (lt_CH (vin_lt hv71)) (sh_CH (vin_lt hv71)) rfl wm_MA_184 rfl ⟨by decide, by decide⟩ (Nat.le_of_ble_eq_true rfl) ⟨by decide, by decide⟩ dX2_write_77 ?_
          generalize hg77 : (f_CH_write ((f_MA_channelAt xb)).toNatClampNeg xc (σ iMA 5) σ) = g77
          have hI77 : Ic g77 := by rw [← hg77]; exact (I_CH_write ((f_MA_channelAt xb)).toNatClampNeg xc (σ iMA 5) hI)
          refine v_iconst (v := 0) X dX2_write_80 (by decide) ?_
          have e9 : f_MA_write p xb xc σ = (0, g77) := by subst hg77; simp only [f_MA_write, if_pos h3, if_pos h13, if_neg h43, if_pos h60]
          exact v_endI hend dX2_write_81 (by rw [e9]) (by rw [e9])
        ·
          refine v_iconst (v := 3) X dX2_write_63 (by decide) ?_
          have e9 : f_MA_write p xb xc σ = (3, σ) := by simp only [f_MA_write, if_pos h3, if_pos h13, if_neg h43, if_neg h60]
          exact v_endI hend dX2_write_64 (by rw [e9]) (by rw [e9])
    ·
      refine v_aload_n X 0 dX2_write_16 rfl rfl ?_
      refine v_getR (j := iWO) (i := iMA) (k := 1) X (lt_MA ) (sh_MA ) rfl in_MA (by decide) wf_MA_15 rfl (fun _ => rfl) dX2_write_17 ?_
      refine v_aload_n X 1 dX2_write_20 rfl rfl ?_
      refine v_getI (i := (iP p)) (k := 1) X (lt_PT hp) (sh_PT hp) rfl in_PT (by decide) wf_MA_80 rfl (fun _ => rfl) dX2_write_21 ?_
      refine v_iload_n X 2 dX2_write_24 rfl rfl ?_
      refine v_iconst (v := 4) X dX2_write_25 (by decide) ?_
      refine v_idiv X (by decide) dX2_write_26 ?_
      refine v_iadd X dX2_write_27 ?_
      refine v_iload_n X 3 dX2_write_28 rfl rfl ?_
      have hv29 : vp_in ((σ (iP p) 1) + (xb / 4)) 96 := (hold_in hI hp h13)
      refine v_iast (i := iWO) (t0 := 0) X (lt_WO ) (sh_WO ) rfl hv29 dX2_write_29 ?_
      generalize hg29 : (up σ iWO (((σ (iP p) 1) + (xb / 4))).toNatClampNeg xc) = g29
      have hI29 : Ic g29 := by rw [← hg29]; exact (Ic.upWO hI)
      refine v_iconst (v := 0) X dX2_write_30 (by decide) ?_
      have e9 : f_MA_write p xb xc σ = (0, g29) := by subst hg29; simp only [f_MA_write, if_pos h3, if_neg h13]
      exact v_endI hend dX2_write_31 (by rw [e9]) (by rw [e9])
  ·
    refine v_iconst (v := 2) X dX2_write_6 (by decide) ?_
    have e9 : f_MA_write p xb xc σ = (2, σ) := by simp only [f_MA_write, if_neg h3]
    exact v_endI hend dX2_write_7 (by rw [e9]) (by rw [e9])
theorem I_MA_write (p : Nat) (xb : Int32) (xc : Int32) {σ : St} (hI : Ic σ) : Ic (f_MA_write p xb xc σ).2 := by
  unfold f_MA_write
  exact (ic_ite2 (fun _ => (ic_ite2 (fun _ => (ic_ite2 (fun _ => hI) (fun _ => (ic_ite2 (fun _ => (I_CH_write ((f_MA_channelAt xb)).toNatClampNeg xc (σ iMA 5) hI)) (fun _ => hI))))) (fun _ => (Ic.upWO hI)))) (fun _ => hI))
def f_MA_tellAge (p : Nat) (xb : Int32) (σ : St) : Int32 × St :=
  (if (f_MA_isReadable xb p σ) = 0 then (3, σ) else (0, (f_PT_put p 10 (f_CH_age (xb).toNatClampNeg (σ iMA 5) σ) σ)))
set_option maxHeartbeats 4000000 in
set_option maxRecDepth 100000 in
theorem c_MA_tellAge {p : Nat} (hp : p < 4) (xb : Int32) (σ : St) : CI l D (tyL cA) rh (rcW rh cA) NW yX2_tellAge cX2_tellAge 3 .int 1 [.ref (rh iMA), .ref (rh (iP p)), .int xb] σ (f_MA_tellAge p xb σ).1 (f_MA_tellAge p xb σ).2 := by
  refine CI.of rfl (Nat.le_of_ble_eq_true rfl) rfl ?_
  intro p9 e s m args below meth c A Q X hend
  refine v_lv (lv' := [(0, .ref (rh iMA)), (1, .ref (rh (iP p))), (2, .int xb)]) [0, 1, 2] rfl ?_
  refine v_aload_n X 0 dX2_tellAge_0 rfl rfl ?_
  refine v_iload_n X 2 dX2_tellAge_1 rfl rfl ?_
  refine v_aload_n X 1 dX2_tellAge_2 rfl rfl ?_
  refine v_callV_CI (rest := []) X [.int xb, .ref (rh (iP p))] (c_MA_isReadable xb hp σ ) mf_MA_isReadable wi_MA_isReadable wl_MA_isReadable (lt_MA ) (sh_MA ) rfl wm_MA_167 rfl ⟨by decide, by decide⟩ (Nat.le_of_ble_eq_true rfl) ⟨by decide, by decide⟩ dX2_tellAge_3 ?_
  refine v_if_ne X 11 dX2_tellAge_6 (by decide) (fun h6 => ?_) (fun h6 => ?_)
  ·
    refine v_aload_n X 1 dX2_tellAge_11 rfl rfl ?_
    refine v_bipush (v := 10) X dX2_tellAge_12 (by decide) ?_
    refine v_aload_n X 0 dX2_tellAge_14 rfl rfl ?_
    refine v_getR (j := iAC) (i := iMA) (k := 3) X (lt_MA ) (sh_MA ) rfl in_MA (by decide) wf_MA_30 rfl (fun _ => rfl) dX2_tellAge_15 ?_
    refine v_iload_n X 2 dX2_tellAge_18 rfl rfl ?_
    have hv19 : vp_in xb 4 := (rd_in h6)
    refine v_aald (i := iAC) (t0 := 2) (g := iC) X (lt_ACH ) (sh_ACH ) rfl hv19 dX2_tellAge_19 ?_
    refine v_aload_n X 0 dX2_tellAge_20 rfl rfl ?_
    refine v_getI (i := iMA) (k := 5) X (lt_MA ) (sh_MA ) rfl in_MA (by decide) wf_MA_42 rfl (fun _ => rfl) dX2_tellAge_21 ?_
    refine v_callV_CI (rest := [.int 10, .ref (rh (iP p))]) X [.int (σ iMA 5)] (c_CH_age (vin_lt hv19) (σ iMA 5) σ ) mf_CH_age wi_CH_age wl_CH_age (lt_CH (vin_lt hv19)) (sh_CH (vin_lt hv19)) rfl wm_MA_201 rfl ⟨by decide, by decide⟩ (Nat.le_of_ble_eq_true rfl) ⟨by decide, by decide⟩ dX2_tellAge_24 ?_
    refine v_callV_CV (rest := []) X [.int 10, .int (f_CH_age (xb).toNatClampNeg (σ iMA 5) σ)] (c_PT_put hp 10 (f_CH_age (xb).toNatClampNeg (σ iMA 5) σ) σ ) mf_PT_put wi_PT_put wl_PT_put (lt_PT hp) (sh_PT hp) rfl wm_MA_125 rfl ⟨by decide, by decide⟩ (Nat.le_of_ble_eq_true rfl) ⟨by decide, by decide⟩ dX2_tellAge_27 ?_
    generalize hg27 : (f_PT_put p 10 (f_CH_age (xb).toNatClampNeg (σ iMA 5) σ) σ) = g27
    refine v_iconst (v := 0) X dX2_tellAge_30 (by decide) ?_
    have e9 : f_MA_tellAge p xb σ = (0, g27) := by subst hg27; simp only [f_MA_tellAge, if_neg h6]
    exact v_endI hend dX2_tellAge_31 (by rw [e9]) (by rw [e9])
  ·
    refine v_iconst (v := 3) X dX2_tellAge_9 (by decide) ?_
    have e9 : f_MA_tellAge p xb σ = (3, σ) := by simp only [f_MA_tellAge, if_pos h6]
    exact v_endI hend dX2_tellAge_10 (by rw [e9]) (by rw [e9])
theorem I_MA_tellAge (p : Nat) (xb : Int32) {σ : St} (hI : Ic σ) : Ic (f_MA_tellAge p xb σ).2 := by
  unfold f_MA_tellAge
  exact (ic_ite2 (fun _ => hI) (fun _ => (I_PT_put p 10 (f_CH_age (xb).toNatClampNeg (σ iMA 5) σ) hI)))
def f_MA_seal (p : Nat) (xb : Int32) (xc : Int32) (σ : St) : Int32 × St :=
  (if (f_SM_within xb 0 3) = 0 then (3, σ) else (0, (up (up σ (iS (xb).toNatClampNeg) 0 (xc ^^^ (f_SM_mix (σ iMA 0) (σ (iP p) 4)))) (iS (xb).toNatClampNeg) 1 (f_SM_mix (f_SM_mix ((up σ (iS (xb).toNatClampNeg) 0 (xc ^^^ (f_SM_mix (σ iMA 0) (σ (iP p) 4)))) iMA 0) xc) ((up σ (iS (xb).toNatClampNeg) 0 (xc ^^^ (f_SM_mix (σ iMA 0) (σ (iP p) 4)))) (iP p) 4)))))
set_option maxHeartbeats 4000000 in
set_option maxRecDepth 100000 in
theorem c_MA_seal {p : Nat} (hp : p < 4) (xb : Int32) (xc : Int32) (σ : St) : CI l D (tyL cA) rh (rcW rh cA) NW yX2_seal cX2_seal 4 .int 1 [.ref (rh iMA), .ref (rh (iP p)), .int xb, .int xc] σ (f_MA_seal p xb xc σ).1 (f_MA_seal p xb xc σ).2 := by
  refine CI.of rfl (Nat.le_of_ble_eq_true rfl) rfl ?_
  intro p9 e s m args below meth c A Q X hend
  refine v_lv (lv' := [(0, .ref (rh iMA)), (1, .ref (rh (iP p))), (2, .int xb), (3, .int xc)]) [0, 1, 2, 3] rfl ?_
  refine v_iload_n X 2 dX2_seal_0 rfl rfl ?_
  refine v_iconst (v := 0) X dX2_seal_1 (by decide) ?_
  refine v_iconst (v := 3) X dX2_seal_2 (by decide) ?_
  refine v_callSN_CI (rest := []) X [.int xb, .int 0, .int 3] (c_SM_within xb 0 3 σ ) mf_SM_within ws_SM_within wn_MA_204 rfl ⟨by decide, by decide⟩ (Nat.le_of_ble_eq_true rfl) ⟨by decide, by decide⟩ dX2_seal_3 ?_
  refine v_if_ne X 11 dX2_seal_6 (by decide) (fun h6 => ?_) (fun h6 => ?_)
  ·
    refine v_aload_n X 0 dX2_seal_11 rfl rfl ?_
    refine v_getR (j := iAS) (i := iMA) (k := 4) X (lt_MA ) (sh_MA ) rfl in_MA (by decide) wf_MA_37 rfl (fun _ => rfl) dX2_seal_12 ?_
    refine v_iload_n X 2 dX2_seal_15 rfl rfl ?_
    have hv16 : vp_in xb 4 := (wi_in h6)
    refine v_aald (i := iAS) (t0 := 3) (g := iS) X (lt_ASL ) (sh_ASL ) rfl hv16 dX2_seal_16 ?_
    refine v_iload_n X 3 dX2_seal_17 rfl rfl ?_
    refine v_aload_n X 0 dX2_seal_18 rfl rfl ?_
    refine v_getI (i := iMA) (k := 0) X (lt_MA ) (sh_MA ) rfl in_MA (by decide) wf_MA_9 rfl (fun _ => rfl) dX2_seal_19 ?_
    refine v_aload_n X 1 dX2_seal_22 rfl rfl ?_
    refine v_getI (i := (iP p)) (k := 4) X (lt_PT hp) (sh_PT hp) rfl in_PT (by decide) wf_MA_63 rfl (fun _ => rfl) dX2_seal_23 ?_
    refine v_callSN_CI (rest := [.int xc, .ref (rh (iS (xb).toNatClampNeg))]) X [.int (σ iMA 0), .int (σ (iP p) 4)] (c_SM_mix (σ iMA 0) (σ (iP p) 4) σ ) mf_SM_mix ws_SM_mix wn_MA_66 rfl ⟨by decide, by decide⟩ (Nat.le_of_ble_eq_true rfl) ⟨by decide, by decide⟩ dX2_seal_26 ?_
    refine v_ixor X dX2_seal_29 ?_
    refine v_put (i := (iS (xb).toNatClampNeg)) (k := 0) (x := (xc ^^^ (f_SM_mix (σ iMA 0) (σ (iP p) 4)))) (ty := .int) X (lt_SL (vin_lt hv16)) (sh_SL (vin_lt hv16)) rfl in_SL (by decide) tyX5 tyX5_ok nX5 wf_MA_207 rfl rfl rfl rfl rfl (fun _ => Nat.le_of_ble_eq_true rfl) (fun _ _ => rfl) dX2_seal_30 ?_
    generalize hg30 : (up σ (iS (xb).toNatClampNeg) 0 (xc ^^^ (f_SM_mix (σ iMA 0) (σ (iP p) 4)))) = g30
    refine v_aload_n X 0 dX2_seal_33 rfl rfl ?_
    refine v_getR (j := iAS) (i := iMA) (k := 4) X (lt_MA ) (sh_MA ) rfl in_MA (by decide) wf_MA_37 rfl (fun _ => rfl) dX2_seal_34 ?_
    refine v_iload_n X 2 dX2_seal_37 rfl rfl ?_
    have hv38 : vp_in xb 4 := (wi_in h6)
    refine v_aald (i := iAS) (t0 := 3) (g := iS) X (lt_ASL ) (sh_ASL ) rfl hv38 dX2_seal_38 ?_
    refine v_aload_n X 0 dX2_seal_39 rfl rfl ?_
    refine v_getI (i := iMA) (k := 0) X (lt_MA ) (sh_MA ) rfl in_MA (by decide) wf_MA_9 rfl (fun _ => rfl) dX2_seal_40 ?_
    refine v_iload_n X 3 dX2_seal_43 rfl rfl ?_
    refine v_callSN_CI (rest := [.ref (rh (iS (xb).toNatClampNeg))]) X [.int (g30 iMA 0), .int xc] (c_SM_mix (g30 iMA 0) xc g30 ) mf_SM_mix ws_SM_mix wn_MA_66 rfl ⟨by decide, by decide⟩ (Nat.le_of_ble_eq_true rfl) ⟨by decide, by decide⟩ dX2_seal_44 ?_
    refine v_aload_n X 1 dX2_seal_47 rfl rfl ?_
    refine v_getI (i := (iP p)) (k := 4) X (lt_PT hp) (sh_PT hp) rfl in_PT (by decide) wf_MA_63 rfl (fun _ => rfl) dX2_seal_48 ?_
    refine v_callSN_CI (rest := [.ref (rh (iS (xb).toNatClampNeg))]) X [.int (f_SM_mix (g30 iMA 0) xc), .int (g30 (iP p) 4)] (c_SM_mix (f_SM_mix (g30 iMA 0) xc) (g30 (iP p) 4) g30 ) mf_SM_mix ws_SM_mix wn_MA_66 rfl ⟨by decide, by decide⟩ (Nat.le_of_ble_eq_true rfl) ⟨by decide, by decide⟩ dX2_seal_51 ?_
    refine v_put (i := (iS (xb).toNatClampNeg)) (k := 1) (x := (f_SM_mix (f_SM_mix (g30 iMA 0) xc) (g30 (iP p) 4))) (ty := .int) X (lt_SL (vin_lt hv38)) (sh_SL (vin_lt hv38)) rfl in_SL (by decide) tyX5 tyX5_ok nX5 wf_MA_210 rfl rfl rfl rfl rfl (fun _ => Nat.le_of_ble_eq_true rfl) (fun _ _ => rfl) dX2_seal_54 ?_
    generalize hg54 : (up g30 (iS (xb).toNatClampNeg) 1 (f_SM_mix (f_SM_mix (g30 iMA 0) xc) (g30 (iP p) 4))) = g54
    refine v_iconst (v := 0) X dX2_seal_57 (by decide) ?_
    have e9 : f_MA_seal p xb xc σ = (0, g54) := by subst hg30; subst hg54; simp only [f_MA_seal, if_neg h6]
    exact v_endI hend dX2_seal_58 (by rw [e9]) (by rw [e9])
  ·
    refine v_iconst (v := 3) X dX2_seal_9 (by decide) ?_
    have e9 : f_MA_seal p xb xc σ = (3, σ) := by simp only [f_MA_seal, if_pos h6]
    exact v_endI hend dX2_seal_10 (by rw [e9]) (by rw [e9])
theorem I_MA_seal (p : Nat) (xb : Int32) (xc : Int32) {σ : St} (hI : Ic σ) : Ic (f_MA_seal p xb xc σ).2 := by
  unfold f_MA_seal
  exact (ic_ite2 (fun _ => hI) (fun _ => (Ic.upSL (Ic.upSL hI))))
def f_MA_open (p : Nat) (xb : Int32) (σ : St) : Int32 × St :=
  (if (f_SM_within xb 0 3) = 0 then (3, σ) else (if ((if (σ (iS (xb).toNatClampNeg) 1) = (f_SM_mix (f_SM_mix (σ iMA 0) ((σ (iS (xb).toNatClampNeg) 0) ^^^ (f_SM_mix (σ iMA 0) (σ (iP p) 4)))) (σ (iP p) 4)) then 1 else 0) : Int32) = 0 then (0, (f_PT_put p 10 (0 : Int32) σ)) else (0, (f_PT_put p 10 (1 : Int32) (f_PT_put p 11 ((σ (iS (xb).toNatClampNeg) 0) ^^^ (f_SM_mix (σ iMA 0) (σ (iP p) 4))) σ)))))
set_option maxHeartbeats 4000000 in
set_option maxRecDepth 100000 in
theorem c_MA_open {p : Nat} (hp : p < 4) (xb : Int32) (σ : St) : CI l D (tyL cA) rh (rcW rh cA) NW yX2_open cX2_open 5 .int 1 [.ref (rh iMA), .ref (rh (iP p)), .int xb] σ (f_MA_open p xb σ).1 (f_MA_open p xb σ).2 := by
  refine CI.of rfl (Nat.le_of_ble_eq_true rfl) rfl ?_
  intro p9 e s m args below meth c A Q X hend
  refine v_lv (lv' := [(0, .ref (rh iMA)), (1, .ref (rh (iP p))), (2, .int xb)]) [0, 1, 2] rfl ?_
  refine v_iload_n X 2 dX2_open_0 rfl rfl ?_
  refine v_iconst (v := 0) X dX2_open_1 (by decide) ?_
  refine v_iconst (v := 3) X dX2_open_2 (by decide) ?_
  refine v_callSN_CI (rest := []) X [.int xb, .int 0, .int 3] (c_SM_within xb 0 3 σ ) mf_SM_within ws_SM_within wn_MA_204 rfl ⟨by decide, by decide⟩ (Nat.le_of_ble_eq_true rfl) ⟨by decide, by decide⟩ dX2_open_3 ?_
  refine v_if_ne X 11 dX2_open_6 (by decide) (fun h6 => ?_) (fun h6 => ?_)
  ·
    refine v_aload_n X 0 dX2_open_11 rfl rfl ?_
    refine v_getR (j := iAS) (i := iMA) (k := 4) X (lt_MA ) (sh_MA ) rfl in_MA (by decide) wf_MA_37 rfl (fun _ => rfl) dX2_open_12 ?_
    refine v_iload_n X 2 dX2_open_15 rfl rfl ?_
    have hv16 : vp_in xb 4 := (wi_in h6)
    refine v_aald (i := iAS) (t0 := 3) (g := iS) X (lt_ASL ) (sh_ASL ) rfl hv16 dX2_open_16 ?_
    refine v_getI (i := (iS (xb).toNatClampNeg)) (k := 0) X (lt_SL (vin_lt hv16)) (sh_SL (vin_lt hv16)) rfl in_SL (by decide) wf_MA_207 rfl (fun _ => rfl) dX2_open_17 ?_
    refine v_aload_n X 0 dX2_open_20 rfl rfl ?_
    refine v_getI (i := iMA) (k := 0) X (lt_MA ) (sh_MA ) rfl in_MA (by decide) wf_MA_9 rfl (fun _ => rfl) dX2_open_21 ?_
    refine v_aload_n X 1 dX2_open_24 rfl rfl ?_
    refine v_getI (i := (iP p)) (k := 4) X (lt_PT hp) (sh_PT hp) rfl in_PT (by decide) wf_MA_63 rfl (fun _ => rfl) dX2_open_25 ?_
    refine v_callSN_CI (rest := [.int (σ (iS (xb).toNatClampNeg) 0)]) X [.int (σ iMA 0), .int (σ (iP p) 4)] (c_SM_mix (σ iMA 0) (σ (iP p) 4) σ ) mf_SM_mix ws_SM_mix wn_MA_66 rfl ⟨by decide, by decide⟩ (Nat.le_of_ble_eq_true rfl) ⟨by decide, by decide⟩ dX2_open_28 ?_
    refine v_ixor X dX2_open_31 ?_
    refine v_istore_n (lv' := [(3, .int ((σ (iS (xb).toNatClampNeg) 0) ^^^ (f_SM_mix (σ iMA 0) (σ (iP p) 4)))), (0, .ref (rh iMA)), (1, .ref (rh (iP p))), (2, .int xb)]) X dX2_open_32 rfl (by decide) rfl ?_
    refine v_aload_n X 1 dX2_open_33 rfl rfl ?_
    refine v_getR (j := iAS) (i := iMA) (k := 4) X (lt_MA ) (sh_MA ) rfl in_MA (by decide) wf_MA_37 rfl (fun _ => rfl) dX2_open_34 ?_
    refine v_iload_n X 3 dX2_open_37 rfl rfl ?_
    have hv38 : vp_in xb 4 := (wi_in h6)
    refine v_aald (i := iAS) (t0 := 3) (g := iS) X (lt_ASL ) (sh_ASL ) rfl hv38 dX2_open_38 ?_
    refine v_getI (i := (iS (xb).toNatClampNeg)) (k := 1) X (lt_SL (vin_lt hv38)) (sh_SL (vin_lt hv38)) rfl in_SL (by decide) wf_MA_210 rfl (fun _ => rfl) dX2_open_39 ?_
    refine v_aload_n X 1 dX2_open_42 rfl rfl ?_
    refine v_getI (i := iMA) (k := 0) X (lt_MA ) (sh_MA ) rfl in_MA (by decide) wf_MA_9 rfl (fun _ => rfl) dX2_open_43 ?_
    refine v_iload_n X 0 dX2_open_46 rfl rfl ?_
    refine v_callSN_CI (rest := [.int (σ (iS (xb).toNatClampNeg) 1)]) X [.int (σ iMA 0), .int ((σ (iS (xb).toNatClampNeg) 0) ^^^ (f_SM_mix (σ iMA 0) (σ (iP p) 4)))] (c_SM_mix (σ iMA 0) ((σ (iS (xb).toNatClampNeg) 0) ^^^ (f_SM_mix (σ iMA 0) (σ (iP p) 4))) σ ) mf_SM_mix ws_SM_mix wn_MA_66 rfl ⟨by decide, by decide⟩ (Nat.le_of_ble_eq_true rfl) ⟨by decide, by decide⟩ dX2_open_47 ?_
    refine v_aload_n X 2 dX2_open_50 rfl rfl ?_
    refine v_getI (i := (iP p)) (k := 4) X (lt_PT hp) (sh_PT hp) rfl in_PT (by decide) wf_MA_63 rfl (fun _ => rfl) dX2_open_51 ?_
    refine v_callSN_CI (rest := [.int (σ (iS (xb).toNatClampNeg) 1)]) X [.int (f_SM_mix (σ iMA 0) ((σ (iS (xb).toNatClampNeg) 0) ^^^ (f_SM_mix (σ iMA 0) (σ (iP p) 4)))), .int (σ (iP p) 4)] (c_SM_mix (f_SM_mix (σ iMA 0) ((σ (iS (xb).toNatClampNeg) 0) ^^^ (f_SM_mix (σ iMA 0) (σ (iP p) 4)))) (σ (iP p) 4) σ ) mf_SM_mix ws_SM_mix wn_MA_66 rfl ⟨by decide, by decide⟩ (Nat.le_of_ble_eq_true rfl) ⟨by decide, by decide⟩ dX2_open_54 ?_
    refine v_suff (pc2 := 65) (lv2 := [(3, .int ((σ (iS (xb).toNatClampNeg) 0) ^^^ (f_SM_mix (σ iMA 0) (σ (iP p) 4)))), (0, .ref (rh iMA)), (1, .ref (rh (iP p))), (2, .int xb)]) (st2 := [.int ((if (σ (iS (xb).toNatClampNeg) 1) = (f_SM_mix (f_SM_mix (σ iMA 0) ((σ (iS (xb).toNatClampNeg) 0) ^^^ (f_SM_mix (σ iMA 0) (σ (iP p) 4)))) (σ (iP p) 4)) then 1 else 0) : Int32)]) (σ2 := σ) ?_ (fun J57 => ?_)
    rotate_left
    ·
      refine v_icmp_ne X 64 dX2_open_57 (by decide) (fun h57 => ?_) (fun h57 => ?_)
      ·
        refine v_iconst (v := 0) X dX2_open_64 (by decide) ?_
        have e9 : (((if (σ (iS (xb).toNatClampNeg) 1) = (f_SM_mix (f_SM_mix (σ iMA 0) ((σ (iS (xb).toNatClampNeg) 0) ^^^ (f_SM_mix (σ iMA 0) (σ (iP p) 4)))) (σ (iP p) 4)) then 1 else 0) : Int32) : Int32) = 0 := by simp only [if_neg h57]
        rw [e9] at J57
        exact J57
      ·
        refine v_iconst (v := 1) X dX2_open_60 (by decide) ?_
        refine v_goto (tgt := 65) X dX2_open_61 (by decide) ?_
        have e9 : (((if (σ (iS (xb).toNatClampNeg) 1) = (f_SM_mix (f_SM_mix (σ iMA 0) ((σ (iS (xb).toNatClampNeg) 0) ^^^ (f_SM_mix (σ iMA 0) (σ (iP p) 4)))) (σ (iP p) 4)) then 1 else 0) : Int32) : Int32) = 1 := by simp only [if_pos h57]
        rw [e9] at J57
        exact J57
    refine v_istore (lv' := [(4, .int ((if (σ (iS (xb).toNatClampNeg) 1) = (f_SM_mix (f_SM_mix (σ iMA 0) ((σ (iS (xb).toNatClampNeg) 0) ^^^ (f_SM_mix (σ iMA 0) (σ (iP p) 4)))) (σ (iP p) 4)) then 1 else 0) : Int32)), (3, .int ((σ (iS (xb).toNatClampNeg) 0) ^^^ (f_SM_mix (σ iMA 0) (σ (iP p) 4)))), (0, .ref (rh iMA)), (1, .ref (rh (iP p))), (2, .int xb)]) X dX2_open_65 (by decide) rfl ?_
    refine v_iload X 0 dX2_open_67 rfl ?_
    refine v_if_eq X 79 dX2_open_69 (by decide) (fun h69 => ?_) (fun h69 => ?_)
    ·
      refine v_aload_n X 3 dX2_open_79 rfl rfl ?_
      refine v_bipush (v := 10) X dX2_open_80 (by decide) ?_
      refine v_iload X 0 dX2_open_82 rfl ?_
      refine v_suff (pc2 := 92) (lv2 := [(4, .int ((if (σ (iS (xb).toNatClampNeg) 1) = (f_SM_mix (f_SM_mix (σ iMA 0) ((σ (iS (xb).toNatClampNeg) 0) ^^^ (f_SM_mix (σ iMA 0) (σ (iP p) 4)))) (σ (iP p) 4)) then 1 else 0) : Int32)), (3, .int ((σ (iS (xb).toNatClampNeg) 0) ^^^ (f_SM_mix (σ iMA 0) (σ (iP p) 4)))), (0, .ref (rh iMA)), (1, .ref (rh (iP p))), (2, .int xb)]) (st2 := [.int (0 : Int32), .int 10, .ref (rh (iP p))]) (σ2 := σ) ?_ (fun J84 => ?_)
      rotate_left
      ·
        refine v_if_eq X 91 dX2_open_84 (by decide) (fun h84 => ?_) (fun h84 => ?_)
        ·
          refine v_iconst (v := 0) X dX2_open_91 (by decide) ?_
          have e9 : ((0 : Int32) : Int32) = 0 := by simp only []
          rw [e9] at J84
          exact J84
        · exact absurd h69 h84
      refine v_callV_CV (rest := []) X [.int 10, .int (0 : Int32)] (c_PT_put hp 10 (0 : Int32) σ ) mf_PT_put wi_PT_put wl_PT_put (lt_PT hp) (sh_PT hp) rfl wm_MA_125 rfl ⟨by decide, by decide⟩ (Nat.le_of_ble_eq_true rfl) ⟨by decide, by decide⟩ dX2_open_92 ?_
      generalize hg92 : (f_PT_put p 10 (0 : Int32) σ) = g92
      refine v_iconst (v := 0) X dX2_open_95 (by decide) ?_
      have e9 : f_MA_open p xb σ = (0, g92) := by subst hg92; simp only [f_MA_open, if_neg h6, if_pos h69]
      exact v_endI hend dX2_open_96 (by rw [e9]) (by rw [e9])
    ·
      refine v_aload_n X 3 dX2_open_72 rfl rfl ?_
      refine v_bipush (v := 11) X dX2_open_73 (by decide) ?_
      refine v_iload_n X 1 dX2_open_75 rfl rfl ?_
      refine v_callV_CV (rest := []) X [.int 11, .int ((σ (iS (xb).toNatClampNeg) 0) ^^^ (f_SM_mix (σ iMA 0) (σ (iP p) 4)))] (c_PT_put hp 11 ((σ (iS (xb).toNatClampNeg) 0) ^^^ (f_SM_mix (σ iMA 0) (σ (iP p) 4))) σ ) mf_PT_put wi_PT_put wl_PT_put (lt_PT hp) (sh_PT hp) rfl wm_MA_125 rfl ⟨by decide, by decide⟩ (Nat.le_of_ble_eq_true rfl) ⟨by decide, by decide⟩ dX2_open_76 ?_
      generalize hg76 : (f_PT_put p 11 ((σ (iS (xb).toNatClampNeg) 0) ^^^ (f_SM_mix (σ iMA 0) (σ (iP p) 4))) σ) = g76
      refine v_aload_n X 3 dX2_open_79 rfl rfl ?_
      refine v_bipush (v := 10) X dX2_open_80 (by decide) ?_
      refine v_iload X 0 dX2_open_82 rfl ?_
      refine v_suff (pc2 := 92) (lv2 := [(4, .int ((if (σ (iS (xb).toNatClampNeg) 1) = (f_SM_mix (f_SM_mix (σ iMA 0) ((σ (iS (xb).toNatClampNeg) 0) ^^^ (f_SM_mix (σ iMA 0) (σ (iP p) 4)))) (σ (iP p) 4)) then 1 else 0) : Int32)), (3, .int ((σ (iS (xb).toNatClampNeg) 0) ^^^ (f_SM_mix (σ iMA 0) (σ (iP p) 4)))), (0, .ref (rh iMA)), (1, .ref (rh (iP p))), (2, .int xb)]) (st2 := [.int (1 : Int32), .int 10, .ref (rh (iP p))]) (σ2 := g76) ?_ (fun J84 => ?_)
      rotate_left
      ·
        refine v_if_eq X 91 dX2_open_84 (by decide) (fun h84 => ?_) (fun h84 => ?_)
        · exact absurd h84 h69
        ·
          refine v_iconst (v := 1) X dX2_open_87 (by decide) ?_
          refine v_goto (tgt := 92) X dX2_open_88 (by decide) ?_
          have e9 : ((1 : Int32) : Int32) = 1 := by simp only []
          rw [e9] at J84
          exact J84
      refine v_callV_CV (rest := []) X [.int 10, .int (1 : Int32)] (c_PT_put hp 10 (1 : Int32) g76 ) mf_PT_put wi_PT_put wl_PT_put (lt_PT hp) (sh_PT hp) rfl wm_MA_125 rfl ⟨by decide, by decide⟩ (Nat.le_of_ble_eq_true rfl) ⟨by decide, by decide⟩ dX2_open_92 ?_
      generalize hg92 : (f_PT_put p 10 (1 : Int32) g76) = g92
      refine v_iconst (v := 0) X dX2_open_95 (by decide) ?_
      have e9 : f_MA_open p xb σ = (0, g92) := by subst hg76; subst hg92; simp only [f_MA_open, if_neg h6, if_neg h69]
      exact v_endI hend dX2_open_96 (by rw [e9]) (by rw [e9])
  ·
    refine v_iconst (v := 3) X dX2_open_9 (by decide) ?_
    have e9 : f_MA_open p xb σ = (3, σ) := by simp only [f_MA_open, if_pos h6]
    exact v_endI hend dX2_open_10 (by rw [e9]) (by rw [e9])
theorem I_MA_open (p : Nat) (xb : Int32) {σ : St} (hI : Ic σ) : Ic (f_MA_open p xb σ).2 := by
  unfold f_MA_open
  exact (ic_ite2 (fun _ => hI) (fun _ => (ic_ite2 (fun _ => (I_PT_put p 10 (0 : Int32) hI)) (fun _ => (I_PT_put p 10 (1 : Int32) (I_PT_put p 11 ((σ (iS (xb).toNatClampNeg) 0) ^^^ (f_SM_mix (σ iMA 0) (σ (iP p) 4))) hI))))))
def f_MA_serve (p : Nat) (σ : St) : Int32 × St :=
  (if (f_PT_get p 15 σ) = 0 then (0, (up σ (iP p) 7 1)) else (if (f_PT_get p 15 σ) = 1 then ((f_MA_tellAge p (f_PT_get p 10 σ) σ).1, (f_MA_tellAge p (f_PT_get p 10 σ) σ).2) else (if (f_PT_get p 15 σ) = 2 then ((f_MA_seal p (f_PT_get p 10 σ) (f_PT_get p 11 σ) σ).1, (f_MA_seal p (f_PT_get p 10 σ) (f_PT_get p 11 σ) σ).2) else (if (f_PT_get p 15 σ) = 3 then ((f_MA_open p (f_PT_get p 10 σ) σ).1, (f_MA_open p (f_PT_get p 10 σ) σ).2) else (if (f_PT_get p 15 σ) = 4 then (0, (f_PT_put p 10 (σ (iP p) 4) σ)) else (3, σ))))))
set_option maxHeartbeats 4000000 in
set_option maxRecDepth 100000 in
theorem c_MA_serve {p : Nat} (hp : p < 4) (σ : St) : CI l D (tyL cA) rh (rcW rh cA) NW yX2_serve cX2_serve 2 .int 2 [.ref (rh iMA), .ref (rh (iP p))] σ (f_MA_serve p σ).1 (f_MA_serve p σ).2 := by
  refine CI.of rfl (Nat.le_of_ble_eq_true rfl) rfl ?_
  intro p9 e s m args below meth c A Q X hend
  refine v_lv (lv' := [(0, .ref (rh iMA)), (1, .ref (rh (iP p)))]) [0, 1] rfl ?_
  refine v_aload_n X 1 dX2_serve_0 rfl rfl ?_
  refine v_bipush (v := 15) X dX2_serve_1 (by decide) ?_
  refine v_callV_CI (rest := []) X [.int 15] (c_PT_get hp 15 σ ) mf_PT_get wi_PT_get wl_PT_get (lt_PT hp) (sh_PT hp) rfl wm_MA_110 rfl ⟨by decide, by decide⟩ (Nat.le_of_ble_eq_true rfl) ⟨by decide, by decide⟩ dX2_serve_3 ?_
  by_cases h6_0 : (f_PT_get p 15 σ) = 0
  ·
    refine v_tswI (off := 34) X 0 40 h6_0 dX2_serve_6 (by decide) (by decide) ?_
    refine v_aload_n X 1 dX2_serve_40 rfl rfl ?_
    refine v_iconst (v := 1) X dX2_serve_41 (by decide) ?_
    refine v_put (i := (iP p)) (k := 7) (x := 1) (ty := .boolean) X (lt_PT hp) (sh_PT hp) rfl in_PT (by decide) tyX3 tyX3_ok nX3 wf_MA_189 rfl rfl rfl (zN (Or.inr rfl)) (zF (Or.inr rfl)) (fun _ => Nat.le_of_ble_eq_true rfl) (fun _ _ => rfl) dX2_serve_42 ?_
    generalize hg42 : (up σ (iP p) 7 1) = g42
    refine v_iconst (v := 0) X dX2_serve_45 (by decide) ?_
    have e9 : f_MA_serve p σ = (0, g42) := by subst hg42; simp only [f_MA_serve, if_pos h6_0]
    exact v_endI hend dX2_serve_46 (by rw [e9]) (by rw [e9])
  by_cases h6_1 : (f_PT_get p 15 σ) = 1
  ·
    refine v_tswI (off := 41) X 1 47 h6_1 dX2_serve_6 (by decide) (by decide) ?_
    refine v_aload_n X 0 dX2_serve_47 rfl rfl ?_
    refine v_aload_n X 1 dX2_serve_48 rfl rfl ?_
    refine v_aload_n X 1 dX2_serve_49 rfl rfl ?_
    refine v_bipush (v := 10) X dX2_serve_50 (by decide) ?_
    refine v_callV_CI (rest := [.ref (rh (iP p)), .ref (rh iMA)]) X [.int 10] (c_PT_get hp 10 σ ) mf_PT_get wi_PT_get wl_PT_get (lt_PT hp) (sh_PT hp) rfl wm_MA_110 rfl ⟨by decide, by decide⟩ (Nat.le_of_ble_eq_true rfl) ⟨by decide, by decide⟩ dX2_serve_52 ?_
    refine v_callV_CI (rest := []) X [.ref (rh (iP p)), .int (f_PT_get p 10 σ)] (c_MA_tellAge hp (f_PT_get p 10 σ) σ ) mf_MA_tellAge wi_MA_tellAge wl_MA_tellAge (lt_MA ) (sh_MA ) rfl wm_MA_192 rfl ⟨by decide, by decide⟩ (Nat.le_of_ble_eq_true rfl) ⟨by decide, by decide⟩ dX2_serve_55 ?_
    generalize hg55 : (f_MA_tellAge p (f_PT_get p 10 σ) σ) = g55
    have e9 : f_MA_serve p σ = (g55.1, g55.2) := by subst hg55; simp only [f_MA_serve, if_neg h6_0, if_pos h6_1]
    exact v_endI hend dX2_serve_58 (by rw [e9]) (by rw [e9])
  by_cases h6_2 : (f_PT_get p 15 σ) = 2
  ·
    refine v_tswI (off := 53) X 2 59 h6_2 dX2_serve_6 (by decide) (by decide) ?_
    refine v_aload_n X 0 dX2_serve_59 rfl rfl ?_
    refine v_aload_n X 1 dX2_serve_60 rfl rfl ?_
    refine v_aload_n X 1 dX2_serve_61 rfl rfl ?_
    refine v_bipush (v := 10) X dX2_serve_62 (by decide) ?_
    refine v_callV_CI (rest := [.ref (rh (iP p)), .ref (rh iMA)]) X [.int 10] (c_PT_get hp 10 σ ) mf_PT_get wi_PT_get wl_PT_get (lt_PT hp) (sh_PT hp) rfl wm_MA_110 rfl ⟨by decide, by decide⟩ (Nat.le_of_ble_eq_true rfl) ⟨by decide, by decide⟩ dX2_serve_64 ?_
    refine v_aload_n X 1 dX2_serve_67 rfl rfl ?_
    refine v_bipush (v := 11) X dX2_serve_68 (by decide) ?_
    refine v_callV_CI (rest := [.int (f_PT_get p 10 σ), .ref (rh (iP p)), .ref (rh iMA)]) X [.int 11] (c_PT_get hp 11 σ ) mf_PT_get wi_PT_get wl_PT_get (lt_PT hp) (sh_PT hp) rfl wm_MA_110 rfl ⟨by decide, by decide⟩ (Nat.le_of_ble_eq_true rfl) ⟨by decide, by decide⟩ dX2_serve_70 ?_
    refine v_callV_CI (rest := []) X [.ref (rh (iP p)), .int (f_PT_get p 10 σ), .int (f_PT_get p 11 σ)] (c_MA_seal hp (f_PT_get p 10 σ) (f_PT_get p 11 σ) σ ) mf_MA_seal wi_MA_seal wl_MA_seal (lt_MA ) (sh_MA ) rfl wm_MA_195 rfl ⟨by decide, by decide⟩ (Nat.le_of_ble_eq_true rfl) ⟨by decide, by decide⟩ dX2_serve_73 ?_
    generalize hg73 : (f_MA_seal p (f_PT_get p 10 σ) (f_PT_get p 11 σ) σ) = g73
    have e9 : f_MA_serve p σ = (g73.1, g73.2) := by subst hg73; simp only [f_MA_serve, if_neg h6_0, if_neg h6_1, if_pos h6_2]
    exact v_endI hend dX2_serve_76 (by rw [e9]) (by rw [e9])
  by_cases h6_3 : (f_PT_get p 15 σ) = 3
  ·
    refine v_tswI (off := 71) X 3 77 h6_3 dX2_serve_6 (by decide) (by decide) ?_
    refine v_aload_n X 0 dX2_serve_77 rfl rfl ?_
    refine v_aload_n X 1 dX2_serve_78 rfl rfl ?_
    refine v_aload_n X 1 dX2_serve_79 rfl rfl ?_
    refine v_bipush (v := 10) X dX2_serve_80 (by decide) ?_
    refine v_callV_CI (rest := [.ref (rh (iP p)), .ref (rh iMA)]) X [.int 10] (c_PT_get hp 10 σ ) mf_PT_get wi_PT_get wl_PT_get (lt_PT hp) (sh_PT hp) rfl wm_MA_110 rfl ⟨by decide, by decide⟩ (Nat.le_of_ble_eq_true rfl) ⟨by decide, by decide⟩ dX2_serve_82 ?_
    refine v_callV_CI (rest := []) X [.ref (rh (iP p)), .int (f_PT_get p 10 σ)] (c_MA_open hp (f_PT_get p 10 σ) σ ) mf_MA_open wi_MA_open wl_MA_open (lt_MA ) (sh_MA ) rfl wm_MA_198 rfl ⟨by decide, by decide⟩ (Nat.le_of_ble_eq_true rfl) ⟨by decide, by decide⟩ dX2_serve_85 ?_
    generalize hg85 : (f_MA_open p (f_PT_get p 10 σ) σ) = g85
    have e9 : f_MA_serve p σ = (g85.1, g85.2) := by subst hg85; simp only [f_MA_serve, if_neg h6_0, if_neg h6_1, if_neg h6_2, if_pos h6_3]
    exact v_endI hend dX2_serve_88 (by rw [e9]) (by rw [e9])
  by_cases h6_4 : (f_PT_get p 15 σ) = 4
  ·
    refine v_tswI (off := 83) X 4 89 h6_4 dX2_serve_6 (by decide) (by decide) ?_
    refine v_aload_n X 1 dX2_serve_89 rfl rfl ?_
    refine v_bipush (v := 10) X dX2_serve_90 (by decide) ?_
    refine v_aload_n X 1 dX2_serve_92 rfl rfl ?_
    refine v_getI (i := (iP p)) (k := 4) X (lt_PT hp) (sh_PT hp) rfl in_PT (by decide) wf_MA_63 rfl (fun _ => rfl) dX2_serve_93 ?_
    refine v_callV_CV (rest := []) X [.int 10, .int (σ (iP p) 4)] (c_PT_put hp 10 (σ (iP p) 4) σ ) mf_PT_put wi_PT_put wl_PT_put (lt_PT hp) (sh_PT hp) rfl wm_MA_125 rfl ⟨by decide, by decide⟩ (Nat.le_of_ble_eq_true rfl) ⟨by decide, by decide⟩ dX2_serve_96 ?_
    generalize hg96 : (f_PT_put p 10 (σ (iP p) 4) σ) = g96
    refine v_iconst (v := 0) X dX2_serve_99 (by decide) ?_
    have e9 : f_MA_serve p σ = (0, g96) := by subst hg96; simp only [f_MA_serve, if_neg h6_0, if_neg h6_1, if_neg h6_2, if_neg h6_3, if_pos h6_4]
    exact v_endI hend dX2_serve_100 (by rw [e9]) (by rw [e9])
  refine v_tswO X 101 dX2_serve_6 (by have g0 := lv_neT (a := 0) h6_0 (by decide); have g1 := lv_neT (a := 1) h6_1 (by decide); have g2 := lv_neT (a := 2) h6_2 (by decide); have g3 := lv_neT (a := 3) h6_3 (by decide); have g4 := lv_neT (a := 4) h6_4 (by decide); omega) (by decide) ?_
  refine v_iconst (v := 3) X dX2_serve_101 (by decide) ?_
  have e9 : f_MA_serve p σ = (3, σ) := by simp only [f_MA_serve, if_neg h6_0, if_neg h6_1, if_neg h6_2, if_neg h6_3, if_neg h6_4]
  exact v_endI hend dX2_serve_102 (by rw [e9]) (by rw [e9])
theorem I_MA_serve (p : Nat) {σ : St} (hI : Ic σ) : Ic (f_MA_serve p σ).2 := by
  unfold f_MA_serve
  exact (ic_ite2 (fun _ => (Ic.upPT hI (by decide))) (fun _ => (ic_ite2 (fun _ => (I_MA_tellAge p (f_PT_get p 10 σ) hI)) (fun _ => (ic_ite2 (fun _ => (I_MA_seal p (f_PT_get p 10 σ) (f_PT_get p 11 σ) hI)) (fun _ => (ic_ite2 (fun _ => (I_MA_open p (f_PT_get p 10 σ) hI)) (fun _ => (ic_ite2 (fun _ => (I_PT_put p 10 (σ (iP p) 4) hI)) (fun _ => hI))))))))))
def f_MA_execute (p : Nat) (xb : Int32) (σ : St) : Int32 × St :=
  (if (f_CO_isKnown xb) = 0 then (1, σ) else (if (f_CO_o xb) = 3 then ((f_MA_readInto p (f_CO_rd xb) ((f_PT_get p (f_CO_rs1 xb) σ) + (f_CO_immediateI xb)) σ).1, (f_MA_readInto p (f_CO_rd xb) ((f_PT_get p (f_CO_rs1 xb) σ) + (f_CO_immediateI xb)) σ).2) else (if (f_CO_o xb) = 19 then (0, (f_PT_put p (f_CO_rd xb) (f_RE_combined (f_CO_f xb) ((if ((if (f_CO_g xb) = 32 then 1 else 0) : Int32) = 0 then 0 else (if (f_CO_f xb) = 5 then 1 else 0)) : Int32) (f_PT_get p (f_CO_rs1 xb) σ) (f_CO_immediateI xb)) σ)) else (if (f_CO_o xb) = 23 then (0, (f_PT_put p (f_CO_rd xb) ((σ (iP p) 5) + (f_CO_immediateU xb)) σ)) else (if (f_CO_o xb) = 35 then ((f_MA_write p ((f_PT_get p (f_CO_rs1 xb) σ) + (f_CO_immediateS xb)) (f_PT_get p (f_CO_rs2 xb) σ) σ).1, (f_MA_write p ((f_PT_get p (f_CO_rs1 xb) σ) + (f_CO_immediateS xb)) (f_PT_get p (f_CO_rs2 xb) σ) σ).2) else (if (f_CO_o xb) = 51 then (0, (f_PT_put p (f_CO_rd xb) (f_RE_combined (f_CO_f xb) ((if (f_CO_g xb) = 32 then 1 else 0) : Int32) (f_PT_get p (f_CO_rs1 xb) σ) (f_PT_get p (f_CO_rs2 xb) σ)) σ)) else (if (f_CO_o xb) = 55 then (0, (f_PT_put p (f_CO_rd xb) (f_CO_immediateU xb) σ)) else (if (f_CO_o xb) = 99 then (if (f_RE_branches (f_CO_f xb) (f_PT_get p (f_CO_rs1 xb) σ) (f_PT_get p (f_CO_rs2 xb) σ)) = 0 then (0, σ) else (0, (up σ iMA 6 ((σ (iP p) 5) + (f_CO_immediateB xb))))) else (if (f_CO_o xb) = 103 then ((f_MA_jump p (f_CO_rd xb) (((f_PT_get p (f_CO_rs1 xb) σ) + (f_CO_immediateI xb)) &&& (-2)) σ).1, (f_MA_jump p (f_CO_rd xb) (((f_PT_get p (f_CO_rs1 xb) σ) + (f_CO_immediateI xb)) &&& (-2)) σ).2) else (if (f_CO_o xb) = 111 then ((f_MA_jump p (f_CO_rd xb) ((σ (iP p) 5) + (f_CO_immediateJ xb)) σ).1, (f_MA_jump p (f_CO_rd xb) ((σ (iP p) 5) + (f_CO_immediateJ xb)) σ).2) else (if xb = 115 then ((f_MA_serve p σ).1, (f_MA_serve p σ).2) else (4, σ))))))))))))
set_option maxHeartbeats 4000000 in
set_option maxRecDepth 100000 in
theorem c_MA_execute {p : Nat} (hp : p < 4) (xb : Int32) (σ : St) (hI : Ic σ) : CI l D (tyL cA) rh (rcW rh cA) NW yX2_execute cX2_execute 8 .int 3 [.ref (rh iMA), .ref (rh (iP p)), .int xb] σ (f_MA_execute p xb σ).1 (f_MA_execute p xb σ).2 := by
  refine CI.of rfl (Nat.le_of_ble_eq_true rfl) rfl ?_
  intro p9 e s m args below meth c A Q X hend
  refine v_lv (lv' := [(0, .ref (rh iMA)), (1, .ref (rh (iP p))), (2, .int xb)]) [0, 1, 2] rfl ?_
  refine v_iload_n X 2 dX2_execute_0 rfl rfl ?_
  refine v_callS_CI (rest := []) X [.int xb] (c_CO_isKnown xb σ ) mf_CO_isKnown ws_CO_isKnown wm_MA_95 rfl ⟨by decide, by decide⟩ (Nat.le_of_ble_eq_true rfl) ⟨by decide, by decide⟩ dX2_execute_1 ?_
  refine v_if_ne X 9 dX2_execute_4 (by decide) (fun h4 => ?_) (fun h4 => ?_)
  ·
    refine v_iload_n X 2 dX2_execute_9 rfl rfl ?_
    refine v_callS_CI (rest := []) X [.int xb] (c_CO_rd xb σ ) mf_CO_rd ws_CO_rd wm_MA_100 rfl ⟨by decide, by decide⟩ (Nat.le_of_ble_eq_true rfl) ⟨by decide, by decide⟩ dX2_execute_10 ?_
    refine v_istore_n (lv' := [(3, .int (f_CO_rd xb)), (0, .ref (rh iMA)), (1, .ref (rh (iP p))), (2, .int xb)]) X dX2_execute_13 rfl (by decide) rfl ?_
    refine v_iload_n X 3 dX2_execute_14 rfl rfl ?_
    refine v_callS_CI (rest := []) X [.int xb] (c_CO_f xb σ ) mf_CO_f ws_CO_f wm_MA_104 rfl ⟨by decide, by decide⟩ (Nat.le_of_ble_eq_true rfl) ⟨by decide, by decide⟩ dX2_execute_15 ?_
    refine v_istore (lv' := [(4, .int (f_CO_f xb)), (3, .int (f_CO_rd xb)), (0, .ref (rh iMA)), (1, .ref (rh (iP p))), (2, .int xb)]) X dX2_execute_18 (by decide) rfl ?_
    refine v_aload_n X 3 dX2_execute_20 rfl rfl ?_
    refine v_iload_n X 4 dX2_execute_21 rfl rfl ?_
    refine v_callS_CI (rest := [.ref (rh (iP p))]) X [.int xb] (c_CO_rs1 xb σ ) mf_CO_rs1 ws_CO_rs1 wm_MA_107 rfl ⟨by decide, by decide⟩ (Nat.le_of_ble_eq_true rfl) ⟨by decide, by decide⟩ dX2_execute_22 ?_
    refine v_callV_CI (rest := []) X [.int (f_CO_rs1 xb)] (c_PT_get hp (f_CO_rs1 xb) σ ) mf_PT_get wi_PT_get wl_PT_get (lt_PT hp) (sh_PT hp) rfl wm_MA_110 rfl ⟨by decide, by decide⟩ (Nat.le_of_ble_eq_true rfl) ⟨by decide, by decide⟩ dX2_execute_25 ?_
    refine v_istore (lv' := [(5, .int (f_PT_get p (f_CO_rs1 xb) σ)), (4, .int (f_CO_f xb)), (3, .int (f_CO_rd xb)), (0, .ref (rh iMA)), (1, .ref (rh (iP p))), (2, .int xb)]) X dX2_execute_28 (by decide) rfl ?_
    refine v_aload_n X 4 dX2_execute_30 rfl rfl ?_
    refine v_iload_n X 5 dX2_execute_31 rfl rfl ?_
    refine v_callS_CI (rest := [.ref (rh (iP p))]) X [.int xb] (c_CO_rs2 xb σ ) mf_CO_rs2 ws_CO_rs2 wm_MA_113 rfl ⟨by decide, by decide⟩ (Nat.le_of_ble_eq_true rfl) ⟨by decide, by decide⟩ dX2_execute_32 ?_
    refine v_callV_CI (rest := []) X [.int (f_CO_rs2 xb)] (c_PT_get hp (f_CO_rs2 xb) σ ) mf_PT_get wi_PT_get wl_PT_get (lt_PT hp) (sh_PT hp) rfl wm_MA_110 rfl ⟨by decide, by decide⟩ (Nat.le_of_ble_eq_true rfl) ⟨by decide, by decide⟩ dX2_execute_35 ?_
    refine v_istore (lv' := [(6, .int (f_PT_get p (f_CO_rs2 xb) σ)), (5, .int (f_PT_get p (f_CO_rs1 xb) σ)), (4, .int (f_CO_f xb)), (3, .int (f_CO_rd xb)), (0, .ref (rh iMA)), (1, .ref (rh (iP p))), (2, .int xb)]) X dX2_execute_38 (by decide) rfl ?_
    refine v_iload_n X 6 dX2_execute_40 rfl rfl ?_
    refine v_callS_CI (rest := []) X [.int xb] (c_CO_g xb σ ) mf_CO_g ws_CO_g wm_MA_116 rfl ⟨by decide, by decide⟩ (Nat.le_of_ble_eq_true rfl) ⟨by decide, by decide⟩ dX2_execute_41 ?_
    refine v_bipush (v := 32) X dX2_execute_44 (by decide) ?_
    refine v_suff (pc2 := 54) (lv2 := [(6, .int (f_PT_get p (f_CO_rs2 xb) σ)), (5, .int (f_PT_get p (f_CO_rs1 xb) σ)), (4, .int (f_CO_f xb)), (3, .int (f_CO_rd xb)), (0, .ref (rh iMA)), (1, .ref (rh (iP p))), (2, .int xb)]) (st2 := [.int ((if (f_CO_g xb) = 32 then 1 else 0) : Int32)]) (σ2 := σ) ?_ (fun J46 => ?_)
    rotate_left
    ·
      refine v_icmp_ne X 53 dX2_execute_46 (by decide) (fun h46 => ?_) (fun h46 => ?_)
      ·
        refine v_iconst (v := 0) X dX2_execute_53 (by decide) ?_
        have e9 : (((if (f_CO_g xb) = 32 then 1 else 0) : Int32) : Int32) = 0 := by simp only [if_neg h46]
        rw [e9] at J46
        exact J46
      ·
        refine v_iconst (v := 1) X dX2_execute_49 (by decide) ?_
        refine v_goto (tgt := 54) X dX2_execute_50 (by decide) ?_
        have e9 : (((if (f_CO_g xb) = 32 then 1 else 0) : Int32) : Int32) = 1 := by simp only [if_pos h46]
        rw [e9] at J46
        exact J46
    refine v_istore (lv' := [(7, .int ((if (f_CO_g xb) = 32 then 1 else 0) : Int32)), (6, .int (f_PT_get p (f_CO_rs2 xb) σ)), (5, .int (f_PT_get p (f_CO_rs1 xb) σ)), (4, .int (f_CO_f xb)), (3, .int (f_CO_rd xb)), (0, .ref (rh iMA)), (1, .ref (rh (iP p))), (2, .int xb)]) X dX2_execute_54 (by decide) rfl ?_
    refine v_iload_n X 7 dX2_execute_56 rfl rfl ?_
    refine v_callS_CI (rest := []) X [.int xb] (c_CO_o xb σ ) mf_CO_o ws_CO_o wm_MA_119 rfl ⟨by decide, by decide⟩ (Nat.le_of_ble_eq_true rfl) ⟨by decide, by decide⟩ dX2_execute_57 ?_
    by_cases h60_0 : (f_CO_o xb) = 3
    ·
      refine v_lsw (off := 171) X 231 dX2_execute_60 (by decide) (by rw [h60_0] <;> rfl) (by decide) ?_
      refine v_aload_n X 5 dX2_execute_231 rfl rfl ?_
      refine v_aload_n X 6 dX2_execute_232 rfl rfl ?_
      refine v_iload_n X 4 dX2_execute_233 rfl rfl ?_
      refine v_iload X 2 dX2_execute_234 rfl ?_
      refine v_iload_n X 7 dX2_execute_236 rfl rfl ?_
      refine v_callS_CI (rest := [.int (f_PT_get p (f_CO_rs1 xb) σ), .int (f_CO_rd xb), .ref (rh (iP p)), .ref (rh iMA)]) X [.int xb] (c_CO_immediateI xb σ ) mf_CO_immediateI ws_CO_immediateI wm_MA_136 rfl ⟨by decide, by decide⟩ (Nat.le_of_ble_eq_true rfl) ⟨by decide, by decide⟩ dX2_execute_237 ?_
      refine v_iadd X dX2_execute_240 ?_
      refine v_callV_CI (rest := []) X [.ref (rh (iP p)), .int (f_CO_rd xb), .int ((f_PT_get p (f_CO_rs1 xb) σ) + (f_CO_immediateI xb))] (c_MA_readInto hp (f_CO_rd xb) ((f_PT_get p (f_CO_rs1 xb) σ) + (f_CO_immediateI xb)) σ hI) mf_MA_readInto wi_MA_readInto wl_MA_readInto (lt_MA ) (sh_MA ) rfl wm_MA_148 rfl ⟨by decide, by decide⟩ (Nat.le_of_ble_eq_true rfl) ⟨by decide, by decide⟩ dX2_execute_241 ?_
      generalize hg241 : (f_MA_readInto p (f_CO_rd xb) ((f_PT_get p (f_CO_rs1 xb) σ) + (f_CO_immediateI xb)) σ) = g241
      have hI241 : Ic g241.2 := by rw [← hg241]; exact (I_MA_readInto p (f_CO_rd xb) ((f_PT_get p (f_CO_rs1 xb) σ) + (f_CO_immediateI xb)) hI)
      have e9 : f_MA_execute p xb σ = (g241.1, g241.2) := by subst hg241; simp only [f_MA_execute, if_neg h4, if_pos h60_0]
      exact v_endI hend dX2_execute_244 (by rw [e9]) (by rw [e9])
    by_cases h60_1 : (f_CO_o xb) = 19
    ·
      refine v_lsw (off := 200) X 260 dX2_execute_60 (by decide) (by rw [h60_1] <;> rfl) (by decide) ?_
      refine v_aload_n X 6 dX2_execute_260 rfl rfl ?_
      refine v_iload_n X 4 dX2_execute_261 rfl rfl ?_
      refine v_iload X 3 dX2_execute_262 rfl ?_
      refine v_iload X 0 dX2_execute_264 rfl ?_
      refine v_suff (pc2 := 280) (lv2 := [(7, .int ((if (f_CO_g xb) = 32 then 1 else 0) : Int32)), (6, .int (f_PT_get p (f_CO_rs2 xb) σ)), (5, .int (f_PT_get p (f_CO_rs1 xb) σ)), (4, .int (f_CO_f xb)), (3, .int (f_CO_rd xb)), (0, .ref (rh iMA)), (1, .ref (rh (iP p))), (2, .int xb)]) (st2 := [.int ((if ((if (f_CO_g xb) = 32 then 1 else 0) : Int32) = 0 then 0 else (if (f_CO_f xb) = 5 then 1 else 0)) : Int32), .int (f_CO_f xb), .int (f_CO_rd xb), .ref (rh (iP p))]) (σ2 := σ) ?_ (fun J266 => ?_)
      rotate_left
      ·
        refine v_if_eq X 279 dX2_execute_266 (by decide) (fun h266 => ?_) (fun h266 => ?_)
        ·
          refine v_iconst (v := 0) X dX2_execute_279 (by decide) ?_
          have e9 : (((if ((if (f_CO_g xb) = 32 then 1 else 0) : Int32) = 0 then 0 else (if (f_CO_f xb) = 5 then 1 else 0)) : Int32) : Int32) = 0 := by simp only [if_pos h266]
          rw [e9] at J266
          exact J266
        ·
          refine v_iload X 3 dX2_execute_269 rfl ?_
          refine v_iconst (v := 5) X dX2_execute_271 (by decide) ?_
          refine v_icmp_ne X 279 dX2_execute_272 (by decide) (fun h272 => ?_) (fun h272 => ?_)
          ·
            refine v_iconst (v := 0) X dX2_execute_279 (by decide) ?_
            have e9 : (((if ((if (f_CO_g xb) = 32 then 1 else 0) : Int32) = 0 then 0 else (if (f_CO_f xb) = 5 then 1 else 0)) : Int32) : Int32) = 0 := by simp only [if_neg h266, if_neg h272]
            rw [e9] at J266
            exact J266
          ·
            refine v_iconst (v := 1) X dX2_execute_275 (by decide) ?_
            refine v_goto (tgt := 280) X dX2_execute_276 (by decide) ?_
            have e9 : (((if ((if (f_CO_g xb) = 32 then 1 else 0) : Int32) = 0 then 0 else (if (f_CO_f xb) = 5 then 1 else 0)) : Int32) : Int32) = 1 := by simp only [if_neg h266, if_pos h272]
            rw [e9] at J266
            exact J266
      refine v_iload X 2 dX2_execute_280 rfl ?_
      refine v_iload_n X 7 dX2_execute_282 rfl rfl ?_
      refine v_callS_CI (rest := [.int (f_PT_get p (f_CO_rs1 xb) σ), .int ((if ((if (f_CO_g xb) = 32 then 1 else 0) : Int32) = 0 then 0 else (if (f_CO_f xb) = 5 then 1 else 0)) : Int32), .int (f_CO_f xb), .int (f_CO_rd xb), .ref (rh (iP p))]) X [.int xb] (c_CO_immediateI xb σ ) mf_CO_immediateI ws_CO_immediateI wm_MA_136 rfl ⟨by decide, by decide⟩ (Nat.le_of_ble_eq_true rfl) ⟨by decide, by decide⟩ dX2_execute_283 ?_
      refine v_callS_CI (rest := [.int (f_CO_rd xb), .ref (rh (iP p))]) X [.int (f_CO_f xb), .int ((if ((if (f_CO_g xb) = 32 then 1 else 0) : Int32) = 0 then 0 else (if (f_CO_f xb) = 5 then 1 else 0)) : Int32), .int (f_PT_get p (f_CO_rs1 xb) σ), .int (f_CO_immediateI xb)] (c_RE_combined (f_CO_f xb) ((if ((if (f_CO_g xb) = 32 then 1 else 0) : Int32) = 0 then 0 else (if (f_CO_f xb) = 5 then 1 else 0)) : Int32) (f_PT_get p (f_CO_rs1 xb) σ) (f_CO_immediateI xb) σ ) mf_RE_combined ws_RE_combined wm_MA_157 rfl ⟨by decide, by decide⟩ (Nat.le_of_ble_eq_true rfl) ⟨by decide, by decide⟩ dX2_execute_286 ?_
      refine v_callV_CV (rest := []) X [.int (f_CO_rd xb), .int (f_RE_combined (f_CO_f xb) ((if ((if (f_CO_g xb) = 32 then 1 else 0) : Int32) = 0 then 0 else (if (f_CO_f xb) = 5 then 1 else 0)) : Int32) (f_PT_get p (f_CO_rs1 xb) σ) (f_CO_immediateI xb))] (c_PT_put hp (f_CO_rd xb) (f_RE_combined (f_CO_f xb) ((if ((if (f_CO_g xb) = 32 then 1 else 0) : Int32) = 0 then 0 else (if (f_CO_f xb) = 5 then 1 else 0)) : Int32) (f_PT_get p (f_CO_rs1 xb) σ) (f_CO_immediateI xb)) σ ) mf_PT_put wi_PT_put wl_PT_put (lt_PT hp) (sh_PT hp) rfl wm_MA_125 rfl ⟨by decide, by decide⟩ (Nat.le_of_ble_eq_true rfl) ⟨by decide, by decide⟩ dX2_execute_289 ?_
      generalize hg289 : (f_PT_put p (f_CO_rd xb) (f_RE_combined (f_CO_f xb) ((if ((if (f_CO_g xb) = 32 then 1 else 0) : Int32) = 0 then 0 else (if (f_CO_f xb) = 5 then 1 else 0)) : Int32) (f_PT_get p (f_CO_rs1 xb) σ) (f_CO_immediateI xb)) σ) = g289
      have hI289 : Ic g289 := by rw [← hg289]; exact (I_PT_put p (f_CO_rd xb) (f_RE_combined (f_CO_f xb) ((if ((if (f_CO_g xb) = 32 then 1 else 0) : Int32) = 0 then 0 else (if (f_CO_f xb) = 5 then 1 else 0)) : Int32) (f_PT_get p (f_CO_rs1 xb) σ) (f_CO_immediateI xb)) hI)
      refine v_iconst (v := 0) X dX2_execute_292 (by decide) ?_
      have e9 : f_MA_execute p xb σ = (0, g289) := by subst hg289; simp only [f_MA_execute, if_neg h4, if_neg h60_0, if_pos h60_1]
      exact v_endI hend dX2_execute_293 (by rw [e9]) (by rw [e9])
    by_cases h60_2 : (f_CO_o xb) = 23
    ·
      refine v_lsw (off := 95) X 155 dX2_execute_60 (by decide) (by rw [h60_2] <;> rfl) (by decide) ?_
      refine v_aload_n X 6 dX2_execute_155 rfl rfl ?_
      refine v_iload_n X 4 dX2_execute_156 rfl rfl ?_
      refine v_aload_n X 6 dX2_execute_157 rfl rfl ?_
      refine v_getI (i := (iP p)) (k := 5) X (lt_PT hp) (sh_PT hp) rfl in_PT (by decide) wf_MA_73 rfl (fun _ => rfl) dX2_execute_158 ?_
      refine v_iload_n X 7 dX2_execute_161 rfl rfl ?_
      refine v_callS_CI (rest := [.int (σ (iP p) 5), .int (f_CO_rd xb), .ref (rh (iP p))]) X [.int xb] (c_CO_immediateU xb σ ) mf_CO_immediateU ws_CO_immediateU wm_MA_122 rfl ⟨by decide, by decide⟩ (Nat.le_of_ble_eq_true rfl) ⟨by decide, by decide⟩ dX2_execute_162 ?_
      refine v_iadd X dX2_execute_165 ?_
      refine v_callV_CV (rest := []) X [.int (f_CO_rd xb), .int ((σ (iP p) 5) + (f_CO_immediateU xb))] (c_PT_put hp (f_CO_rd xb) ((σ (iP p) 5) + (f_CO_immediateU xb)) σ ) mf_PT_put wi_PT_put wl_PT_put (lt_PT hp) (sh_PT hp) rfl wm_MA_125 rfl ⟨by decide, by decide⟩ (Nat.le_of_ble_eq_true rfl) ⟨by decide, by decide⟩ dX2_execute_166 ?_
      generalize hg166 : (f_PT_put p (f_CO_rd xb) ((σ (iP p) 5) + (f_CO_immediateU xb)) σ) = g166
      have hI166 : Ic g166 := by rw [← hg166]; exact (I_PT_put p (f_CO_rd xb) ((σ (iP p) 5) + (f_CO_immediateU xb)) hI)
      refine v_iconst (v := 0) X dX2_execute_169 (by decide) ?_
      have e9 : f_MA_execute p xb σ = (0, g166) := by subst hg166; simp only [f_MA_execute, if_neg h4, if_neg h60_0, if_neg h60_1, if_pos h60_2]
      exact v_endI hend dX2_execute_170 (by rw [e9]) (by rw [e9])
    by_cases h60_3 : (f_CO_o xb) = 35
    ·
      refine v_lsw (off := 185) X 245 dX2_execute_60 (by decide) (by rw [h60_3] <;> rfl) (by decide) ?_
      refine v_aload_n X 5 dX2_execute_245 rfl rfl ?_
      refine v_aload_n X 6 dX2_execute_246 rfl rfl ?_
      refine v_iload X 2 dX2_execute_247 rfl ?_
      refine v_iload_n X 7 dX2_execute_249 rfl rfl ?_
      refine v_callS_CI (rest := [.int (f_PT_get p (f_CO_rs1 xb) σ), .ref (rh (iP p)), .ref (rh iMA)]) X [.int xb] (c_CO_immediateS xb σ ) mf_CO_immediateS ws_CO_immediateS wm_MA_151 rfl ⟨by decide, by decide⟩ (Nat.le_of_ble_eq_true rfl) ⟨by decide, by decide⟩ dX2_execute_250 ?_
      refine v_iadd X dX2_execute_253 ?_
      refine v_iload X 1 dX2_execute_254 rfl ?_
      refine v_callV_CI (rest := []) X [.ref (rh (iP p)), .int ((f_PT_get p (f_CO_rs1 xb) σ) + (f_CO_immediateS xb)), .int (f_PT_get p (f_CO_rs2 xb) σ)] (c_MA_write hp ((f_PT_get p (f_CO_rs1 xb) σ) + (f_CO_immediateS xb)) (f_PT_get p (f_CO_rs2 xb) σ) σ hI) mf_MA_write wi_MA_write wl_MA_write (lt_MA ) (sh_MA ) rfl wm_MA_154 rfl ⟨by decide, by decide⟩ (Nat.le_of_ble_eq_true rfl) ⟨by decide, by decide⟩ dX2_execute_256 ?_
      generalize hg256 : (f_MA_write p ((f_PT_get p (f_CO_rs1 xb) σ) + (f_CO_immediateS xb)) (f_PT_get p (f_CO_rs2 xb) σ) σ) = g256
      have hI256 : Ic g256.2 := by rw [← hg256]; exact (I_MA_write p ((f_PT_get p (f_CO_rs1 xb) σ) + (f_CO_immediateS xb)) (f_PT_get p (f_CO_rs2 xb) σ) hI)
      have e9 : f_MA_execute p xb σ = (g256.1, g256.2) := by subst hg256; simp only [f_MA_execute, if_neg h4, if_neg h60_0, if_neg h60_1, if_neg h60_2, if_pos h60_3]
      exact v_endI hend dX2_execute_259 (by rw [e9]) (by rw [e9])
    by_cases h60_4 : (f_CO_o xb) = 51
    ·
      refine v_lsw (off := 234) X 294 dX2_execute_60 (by decide) (by rw [h60_4] <;> rfl) (by decide) ?_
      refine v_aload_n X 6 dX2_execute_294 rfl rfl ?_
      refine v_iload_n X 4 dX2_execute_295 rfl rfl ?_
      refine v_iload X 3 dX2_execute_296 rfl ?_
      refine v_iload X 0 dX2_execute_298 rfl ?_
      refine v_iload X 2 dX2_execute_300 rfl ?_
      refine v_iload X 1 dX2_execute_302 rfl ?_
      refine v_callS_CI (rest := [.int (f_CO_rd xb), .ref (rh (iP p))]) X [.int (f_CO_f xb), .int ((if (f_CO_g xb) = 32 then 1 else 0) : Int32), .int (f_PT_get p (f_CO_rs1 xb) σ), .int (f_PT_get p (f_CO_rs2 xb) σ)] (c_RE_combined (f_CO_f xb) ((if (f_CO_g xb) = 32 then 1 else 0) : Int32) (f_PT_get p (f_CO_rs1 xb) σ) (f_PT_get p (f_CO_rs2 xb) σ) σ ) mf_RE_combined ws_RE_combined wm_MA_157 rfl ⟨by decide, by decide⟩ (Nat.le_of_ble_eq_true rfl) ⟨by decide, by decide⟩ dX2_execute_304 ?_
      refine v_callV_CV (rest := []) X [.int (f_CO_rd xb), .int (f_RE_combined (f_CO_f xb) ((if (f_CO_g xb) = 32 then 1 else 0) : Int32) (f_PT_get p (f_CO_rs1 xb) σ) (f_PT_get p (f_CO_rs2 xb) σ))] (c_PT_put hp (f_CO_rd xb) (f_RE_combined (f_CO_f xb) ((if (f_CO_g xb) = 32 then 1 else 0) : Int32) (f_PT_get p (f_CO_rs1 xb) σ) (f_PT_get p (f_CO_rs2 xb) σ)) σ ) mf_PT_put wi_PT_put wl_PT_put (lt_PT hp) (sh_PT hp) rfl wm_MA_125 rfl ⟨by decide, by decide⟩ (Nat.le_of_ble_eq_true rfl) ⟨by decide, by decide⟩ dX2_execute_307 ?_
      generalize hg307 : (f_PT_put p (f_CO_rd xb) (f_RE_combined (f_CO_f xb) ((if (f_CO_g xb) = 32 then 1 else 0) : Int32) (f_PT_get p (f_CO_rs1 xb) σ) (f_PT_get p (f_CO_rs2 xb) σ)) σ) = g307
      have hI307 : Ic g307 := by rw [← hg307]; exact (I_PT_put p (f_CO_rd xb) (f_RE_combined (f_CO_f xb) ((if (f_CO_g xb) = 32 then 1 else 0) : Int32) (f_PT_get p (f_CO_rs1 xb) σ) (f_PT_get p (f_CO_rs2 xb) σ)) hI)
      refine v_iconst (v := 0) X dX2_execute_310 (by decide) ?_
      have e9 : f_MA_execute p xb σ = (0, g307) := by subst hg307; simp only [f_MA_execute, if_neg h4, if_neg h60_0, if_neg h60_1, if_neg h60_2, if_neg h60_3, if_pos h60_4]
      exact v_endI hend dX2_execute_311 (by rw [e9]) (by rw [e9])
    by_cases h60_5 : (f_CO_o xb) = 55
    ·
      refine v_lsw (off := 84) X 144 dX2_execute_60 (by decide) (by rw [h60_5] <;> rfl) (by decide) ?_
      refine v_aload_n X 6 dX2_execute_144 rfl rfl ?_
      refine v_iload_n X 4 dX2_execute_145 rfl rfl ?_
      refine v_iload_n X 7 dX2_execute_146 rfl rfl ?_
      refine v_callS_CI (rest := [.int (f_CO_rd xb), .ref (rh (iP p))]) X [.int xb] (c_CO_immediateU xb σ ) mf_CO_immediateU ws_CO_immediateU wm_MA_122 rfl ⟨by decide, by decide⟩ (Nat.le_of_ble_eq_true rfl) ⟨by decide, by decide⟩ dX2_execute_147 ?_
      refine v_callV_CV (rest := []) X [.int (f_CO_rd xb), .int (f_CO_immediateU xb)] (c_PT_put hp (f_CO_rd xb) (f_CO_immediateU xb) σ ) mf_PT_put wi_PT_put wl_PT_put (lt_PT hp) (sh_PT hp) rfl wm_MA_125 rfl ⟨by decide, by decide⟩ (Nat.le_of_ble_eq_true rfl) ⟨by decide, by decide⟩ dX2_execute_150 ?_
      generalize hg150 : (f_PT_put p (f_CO_rd xb) (f_CO_immediateU xb) σ) = g150
      have hI150 : Ic g150 := by rw [← hg150]; exact (I_PT_put p (f_CO_rd xb) (f_CO_immediateU xb) hI)
      refine v_iconst (v := 0) X dX2_execute_153 (by decide) ?_
      have e9 : f_MA_execute p xb σ = (0, g150) := by subst hg150; simp only [f_MA_execute, if_neg h4, if_neg h60_0, if_neg h60_1, if_neg h60_2, if_neg h60_3, if_neg h60_4, if_pos h60_5]
      exact v_endI hend dX2_execute_154 (by rw [e9]) (by rw [e9])
    by_cases h60_6 : (f_CO_o xb) = 99
    ·
      refine v_lsw (off := 144) X 204 dX2_execute_60 (by decide) (by rw [h60_6] <;> rfl) (by decide) ?_
      refine v_iload X 3 dX2_execute_204 rfl ?_
      refine v_iload X 2 dX2_execute_206 rfl ?_
      refine v_iload X 1 dX2_execute_208 rfl ?_
      refine v_callS_CI (rest := []) X [.int (f_CO_f xb), .int (f_PT_get p (f_CO_rs1 xb) σ), .int (f_PT_get p (f_CO_rs2 xb) σ)] (c_RE_branches (f_CO_f xb) (f_PT_get p (f_CO_rs1 xb) σ) (f_PT_get p (f_CO_rs2 xb) σ) σ ) mf_RE_branches ws_RE_branches wm_MA_139 rfl ⟨by decide, by decide⟩ (Nat.le_of_ble_eq_true rfl) ⟨by decide, by decide⟩ dX2_execute_210 ?_
      refine v_if_eq X 229 dX2_execute_213 (by decide) (fun h213 => ?_) (fun h213 => ?_)
      ·
        refine v_iconst (v := 0) X dX2_execute_229 (by decide) ?_
        have e9 : f_MA_execute p xb σ = (0, σ) := by simp only [f_MA_execute, if_neg h4, if_neg h60_0, if_neg h60_1, if_neg h60_2, if_neg h60_3, if_neg h60_4, if_neg h60_5, if_pos h60_6, if_pos h213]
        exact v_endI hend dX2_execute_230 (by rw [e9]) (by rw [e9])
      ·
        refine v_aload_n X 5 dX2_execute_216 rfl rfl ?_
        refine v_aload_n X 6 dX2_execute_217 rfl rfl ?_
        refine v_getI (i := (iP p)) (k := 5) X (lt_PT hp) (sh_PT hp) rfl in_PT (by decide) wf_MA_73 rfl (fun _ => rfl) dX2_execute_218 ?_
        refine v_iload_n X 7 dX2_execute_221 rfl rfl ?_
        refine v_callS_CI (rest := [.int (σ (iP p) 5), .ref (rh iMA)]) X [.int xb] (c_CO_immediateB xb σ ) mf_CO_immediateB ws_CO_immediateB wm_MA_145 rfl ⟨by decide, by decide⟩ (Nat.le_of_ble_eq_true rfl) ⟨by decide, by decide⟩ dX2_execute_222 ?_
        refine v_iadd X dX2_execute_225 ?_
        refine v_put (i := iMA) (k := 6) (x := ((σ (iP p) 5) + (f_CO_immediateB xb))) (ty := .int) X (lt_MA ) (sh_MA ) rfl in_MA (by decide) tyX2 tyX2_ok nX2 wf_MA_45 rfl rfl rfl rfl rfl (fun _ => Nat.le_of_ble_eq_true rfl) (fun _ _ => rfl) dX2_execute_226 ?_
        generalize hg226 : (up σ iMA 6 ((σ (iP p) 5) + (f_CO_immediateB xb))) = g226
        have hI226 : Ic g226 := by rw [← hg226]; exact (Ic.upMA hI)
        refine v_iconst (v := 0) X dX2_execute_229 (by decide) ?_
        have e9 : f_MA_execute p xb σ = (0, g226) := by subst hg226; simp only [f_MA_execute, if_neg h4, if_neg h60_0, if_neg h60_1, if_neg h60_2, if_neg h60_3, if_neg h60_4, if_neg h60_5, if_pos h60_6, if_neg h213]
        exact v_endI hend dX2_execute_230 (by rw [e9]) (by rw [e9])
    by_cases h60_7 : (f_CO_o xb) = 103
    ·
      refine v_lsw (off := 127) X 187 dX2_execute_60 (by decide) (by rw [h60_7] <;> rfl) (by decide) ?_
      refine v_aload_n X 5 dX2_execute_187 rfl rfl ?_
      refine v_aload_n X 6 dX2_execute_188 rfl rfl ?_
      refine v_iload_n X 4 dX2_execute_189 rfl rfl ?_
      refine v_iload X 2 dX2_execute_190 rfl ?_
      refine v_iload_n X 7 dX2_execute_192 rfl rfl ?_
      refine v_callS_CI (rest := [.int (f_PT_get p (f_CO_rs1 xb) σ), .int (f_CO_rd xb), .ref (rh (iP p)), .ref (rh iMA)]) X [.int xb] (c_CO_immediateI xb σ ) mf_CO_immediateI ws_CO_immediateI wm_MA_136 rfl ⟨by decide, by decide⟩ (Nat.le_of_ble_eq_true rfl) ⟨by decide, by decide⟩ dX2_execute_193 ?_
      refine v_iadd X dX2_execute_196 ?_
      refine v_bipush (v := (-2)) X dX2_execute_197 (by decide) ?_
      refine v_iand X dX2_execute_199 ?_
      refine v_callV_CI (rest := []) X [.ref (rh (iP p)), .int (f_CO_rd xb), .int (((f_PT_get p (f_CO_rs1 xb) σ) + (f_CO_immediateI xb)) &&& (-2))] (c_MA_jump hp (f_CO_rd xb) (((f_PT_get p (f_CO_rs1 xb) σ) + (f_CO_immediateI xb)) &&& (-2)) σ ) mf_MA_jump wi_MA_jump wl_MA_jump (lt_MA ) (sh_MA ) rfl wm_MA_132 rfl ⟨by decide, by decide⟩ (Nat.le_of_ble_eq_true rfl) ⟨by decide, by decide⟩ dX2_execute_200 ?_
      generalize hg200 : (f_MA_jump p (f_CO_rd xb) (((f_PT_get p (f_CO_rs1 xb) σ) + (f_CO_immediateI xb)) &&& (-2)) σ) = g200
      have hI200 : Ic g200.2 := by rw [← hg200]; exact (I_MA_jump p (f_CO_rd xb) (((f_PT_get p (f_CO_rs1 xb) σ) + (f_CO_immediateI xb)) &&& (-2)) hI)
      have e9 : f_MA_execute p xb σ = (g200.1, g200.2) := by subst hg200; simp only [f_MA_execute, if_neg h4, if_neg h60_0, if_neg h60_1, if_neg h60_2, if_neg h60_3, if_neg h60_4, if_neg h60_5, if_neg h60_6, if_pos h60_7]
      exact v_endI hend dX2_execute_203 (by rw [e9]) (by rw [e9])
    by_cases h60_8 : (f_CO_o xb) = 111
    ·
      refine v_lsw (off := 111) X 171 dX2_execute_60 (by decide) (by rw [h60_8] <;> rfl) (by decide) ?_
      refine v_aload_n X 5 dX2_execute_171 rfl rfl ?_
      refine v_aload_n X 6 dX2_execute_172 rfl rfl ?_
      refine v_iload_n X 4 dX2_execute_173 rfl rfl ?_
      refine v_aload_n X 6 dX2_execute_174 rfl rfl ?_
      refine v_getI (i := (iP p)) (k := 5) X (lt_PT hp) (sh_PT hp) rfl in_PT (by decide) wf_MA_73 rfl (fun _ => rfl) dX2_execute_175 ?_
      refine v_iload_n X 7 dX2_execute_178 rfl rfl ?_
      refine v_callS_CI (rest := [.int (σ (iP p) 5), .int (f_CO_rd xb), .ref (rh (iP p)), .ref (rh iMA)]) X [.int xb] (c_CO_immediateJ xb σ ) mf_CO_immediateJ ws_CO_immediateJ wm_MA_129 rfl ⟨by decide, by decide⟩ (Nat.le_of_ble_eq_true rfl) ⟨by decide, by decide⟩ dX2_execute_179 ?_
      refine v_iadd X dX2_execute_182 ?_
      refine v_callV_CI (rest := []) X [.ref (rh (iP p)), .int (f_CO_rd xb), .int ((σ (iP p) 5) + (f_CO_immediateJ xb))] (c_MA_jump hp (f_CO_rd xb) ((σ (iP p) 5) + (f_CO_immediateJ xb)) σ ) mf_MA_jump wi_MA_jump wl_MA_jump (lt_MA ) (sh_MA ) rfl wm_MA_132 rfl ⟨by decide, by decide⟩ (Nat.le_of_ble_eq_true rfl) ⟨by decide, by decide⟩ dX2_execute_183 ?_
      generalize hg183 : (f_MA_jump p (f_CO_rd xb) ((σ (iP p) 5) + (f_CO_immediateJ xb)) σ) = g183
      have hI183 : Ic g183.2 := by rw [← hg183]; exact (I_MA_jump p (f_CO_rd xb) ((σ (iP p) 5) + (f_CO_immediateJ xb)) hI)
      have e9 : f_MA_execute p xb σ = (g183.1, g183.2) := by subst hg183; simp only [f_MA_execute, if_neg h4, if_neg h60_0, if_neg h60_1, if_neg h60_2, if_neg h60_3, if_neg h60_4, if_neg h60_5, if_neg h60_6, if_neg h60_7, if_pos h60_8]
      exact v_endI hend dX2_execute_186 (by rw [e9]) (by rw [e9])
    refine v_lsw (off := 252) X 312 dX2_execute_60 (by decide) (by rw [lv_osw h60_0 (by decide)]; rw [lv_osw h60_1 (by decide)]; rw [lv_osw h60_2 (by decide)]; rw [lv_osw h60_3 (by decide)]; rw [lv_osw h60_4 (by decide)]; rw [lv_osw h60_5 (by decide)]; rw [lv_osw h60_6 (by decide)]; rw [lv_osw h60_7 (by decide)]; rw [lv_osw h60_8 (by decide)] <;> rfl) (by decide) ?_
    refine v_iload_n X 7 dX2_execute_312 rfl rfl ?_
    refine v_bipush (v := 115) X dX2_execute_313 (by decide) ?_
    refine v_icmp_ne X 326 dX2_execute_315 (by decide) (fun h315 => ?_) (fun h315 => ?_)
    ·
      refine v_iconst (v := 4) X dX2_execute_326 (by decide) ?_
      have e9 : f_MA_execute p xb σ = (4, σ) := by simp only [f_MA_execute, if_neg h4, if_neg h60_0, if_neg h60_1, if_neg h60_2, if_neg h60_3, if_neg h60_4, if_neg h60_5, if_neg h60_6, if_neg h60_7, if_neg h60_8, if_neg h315]
      exact v_endI hend dX2_execute_327 (by rw [e9]) (by rw [e9])
    ·
      refine v_aload_n X 5 dX2_execute_318 rfl rfl ?_
      refine v_aload_n X 6 dX2_execute_319 rfl rfl ?_
      refine v_callV_CI (rest := []) X [.ref (rh (iP p))] (c_MA_serve hp σ ) mf_MA_serve wi_MA_serve wl_MA_serve (lt_MA ) (sh_MA ) rfl wm_MA_161 rfl ⟨by decide, by decide⟩ (Nat.le_of_ble_eq_true rfl) ⟨by decide, by decide⟩ dX2_execute_320 ?_
      generalize hg320 : (f_MA_serve p σ) = g320
      have hI320 : Ic g320.2 := by rw [← hg320]; exact (I_MA_serve p hI)
      refine v_goto (tgt := 327) X dX2_execute_323 (by decide) ?_
      have e9 : f_MA_execute p xb σ = (g320.1, g320.2) := by subst hg320; simp only [f_MA_execute, if_neg h4, if_neg h60_0, if_neg h60_1, if_neg h60_2, if_neg h60_3, if_neg h60_4, if_neg h60_5, if_neg h60_6, if_neg h60_7, if_neg h60_8, if_pos h315]
      exact v_endI hend dX2_execute_327 (by rw [e9]) (by rw [e9])
  ·
    refine v_iconst (v := 1) X dX2_execute_7 (by decide) ?_
    have e9 : f_MA_execute p xb σ = (1, σ) := by simp only [f_MA_execute, if_pos h4]
    exact v_endI hend dX2_execute_8 (by rw [e9]) (by rw [e9])
theorem I_MA_execute (p : Nat) (xb : Int32) {σ : St} (hI : Ic σ) : Ic (f_MA_execute p xb σ).2 := by
  unfold f_MA_execute
  exact (ic_ite2 (fun _ => hI) (fun _ => (ic_ite2 (fun _ => (I_MA_readInto p (f_CO_rd xb) ((f_PT_get p (f_CO_rs1 xb) σ) + (f_CO_immediateI xb)) hI)) (fun _ => (ic_ite2 (fun _ => (I_PT_put p (f_CO_rd xb) (f_RE_combined (f_CO_f xb) ((if ((if (f_CO_g xb) = 32 then 1 else 0) : Int32) = 0 then 0 else (if (f_CO_f xb) = 5 then 1 else 0)) : Int32) (f_PT_get p (f_CO_rs1 xb) σ) (f_CO_immediateI xb)) hI)) (fun _ => (ic_ite2 (fun _ => (I_PT_put p (f_CO_rd xb) ((σ (iP p) 5) + (f_CO_immediateU xb)) hI)) (fun _ => (ic_ite2 (fun _ => (I_MA_write p ((f_PT_get p (f_CO_rs1 xb) σ) + (f_CO_immediateS xb)) (f_PT_get p (f_CO_rs2 xb) σ) hI)) (fun _ => (ic_ite2 (fun _ => (I_PT_put p (f_CO_rd xb) (f_RE_combined (f_CO_f xb) ((if (f_CO_g xb) = 32 then 1 else 0) : Int32) (f_PT_get p (f_CO_rs1 xb) σ) (f_PT_get p (f_CO_rs2 xb) σ)) hI)) (fun _ => (ic_ite2 (fun _ => (I_PT_put p (f_CO_rd xb) (f_CO_immediateU xb) hI)) (fun _ => (ic_ite2 (fun _ => (ic_ite2 (fun _ => hI) (fun _ => (Ic.upMA hI)))) (fun _ => (ic_ite2 (fun _ => (I_MA_jump p (f_CO_rd xb) (((f_PT_get p (f_CO_rs1 xb) σ) + (f_CO_immediateI xb)) &&& (-2)) hI)) (fun _ => (ic_ite2 (fun _ => (I_MA_jump p (f_CO_rd xb) ((σ (iP p) 5) + (f_CO_immediateJ xb)) hI)) (fun _ => (ic_ite2 (fun _ => (I_MA_serve p hI)) (fun _ => hI))))))))))))))))))))))
def f_MA_step (p : Nat) (σ : St) : St :=
  (if (f_MA_fetchFault p (up (f_PT_noteBegun p σ) iMA 6 (((f_PT_noteBegun p σ) (iP p) 5) + 4))) = 0 then (if (f_MA_execute p ((up (f_PT_noteBegun p σ) iMA 6 (((f_PT_noteBegun p σ) (iP p) 5) + 4)) iWO ((((up (f_PT_noteBegun p σ) iMA 6 (((f_PT_noteBegun p σ) (iP p) 5) + 4)) (iP p) 1) + (((up (f_PT_noteBegun p σ) iMA 6 (((f_PT_noteBegun p σ) (iP p) 5) + 4)) (iP p) 5) / 4))).toNatClampNeg) (up (f_PT_noteBegun p σ) iMA 6 (((f_PT_noteBegun p σ) (iP p) 5) + 4))).1 = 0 then (up (f_MA_execute p ((up (f_PT_noteBegun p σ) iMA 6 (((f_PT_noteBegun p σ) (iP p) 5) + 4)) iWO ((((up (f_PT_noteBegun p σ) iMA 6 (((f_PT_noteBegun p σ) (iP p) 5) + 4)) (iP p) 1) + (((up (f_PT_noteBegun p σ) iMA 6 (((f_PT_noteBegun p σ) (iP p) 5) + 4)) (iP p) 5) / 4))).toNatClampNeg) (up (f_PT_noteBegun p σ) iMA 6 (((f_PT_noteBegun p σ) (iP p) 5) + 4))).2 (iP p) 5 ((f_MA_execute p ((up (f_PT_noteBegun p σ) iMA 6 (((f_PT_noteBegun p σ) (iP p) 5) + 4)) iWO ((((up (f_PT_noteBegun p σ) iMA 6 (((f_PT_noteBegun p σ) (iP p) 5) + 4)) (iP p) 1) + (((up (f_PT_noteBegun p σ) iMA 6 (((f_PT_noteBegun p σ) (iP p) 5) + 4)) (iP p) 5) / 4))).toNatClampNeg) (up (f_PT_noteBegun p σ) iMA 6 (((f_PT_noteBegun p σ) (iP p) 5) + 4))).2 iMA 6)) else (f_PT_suffer p (f_MA_execute p ((up (f_PT_noteBegun p σ) iMA 6 (((f_PT_noteBegun p σ) (iP p) 5) + 4)) iWO ((((up (f_PT_noteBegun p σ) iMA 6 (((f_PT_noteBegun p σ) (iP p) 5) + 4)) (iP p) 1) + (((up (f_PT_noteBegun p σ) iMA 6 (((f_PT_noteBegun p σ) (iP p) 5) + 4)) (iP p) 5) / 4))).toNatClampNeg) (up (f_PT_noteBegun p σ) iMA 6 (((f_PT_noteBegun p σ) (iP p) 5) + 4))).1 (f_MA_execute p ((up (f_PT_noteBegun p σ) iMA 6 (((f_PT_noteBegun p σ) (iP p) 5) + 4)) iWO ((((up (f_PT_noteBegun p σ) iMA 6 (((f_PT_noteBegun p σ) (iP p) 5) + 4)) (iP p) 1) + (((up (f_PT_noteBegun p σ) iMA 6 (((f_PT_noteBegun p σ) (iP p) 5) + 4)) (iP p) 5) / 4))).toNatClampNeg) (up (f_PT_noteBegun p σ) iMA 6 (((f_PT_noteBegun p σ) (iP p) 5) + 4))).2)) else (f_PT_suffer p (f_MA_fetchFault p (up (f_PT_noteBegun p σ) iMA 6 (((f_PT_noteBegun p σ) (iP p) 5) + 4))) (up (f_PT_noteBegun p σ) iMA 6 (((f_PT_noteBegun p σ) (iP p) 5) + 4))))
set_option maxHeartbeats 4000000 in
set_option maxRecDepth 100000 in
theorem c_MA_step {p : Nat} (hp : p < 4) (σ : St) (hI : Ic σ) : CV l D (tyL cA) rh (rcW rh cA) NW yX2_step cX2_step 3 4 [.ref (rh iMA), .ref (rh (iP p))] σ (f_MA_step p σ) := by
  refine CV.of rfl (Nat.le_of_ble_eq_true rfl) ?_
  intro p9 e s m args below meth c A Q X hend
  refine v_lv (lv' := [(0, .ref (rh iMA)), (1, .ref (rh (iP p)))]) [0, 1] rfl ?_
  refine v_aload_n X 1 dX2_step_0 rfl rfl ?_
  refine v_callV_CV (rest := []) X [] (c_PT_noteBegun hp σ ) mf_PT_noteBegun wi_PT_noteBegun wl_PT_noteBegun (lt_PT hp) (sh_PT hp) rfl wm_MA_70 rfl ⟨by decide, by decide⟩ (Nat.le_of_ble_eq_true rfl) ⟨by decide, by decide⟩ dX2_step_1 ?_
  generalize hg1 : (f_PT_noteBegun p σ) = g1
  have hI1 : Ic g1 := by rw [← hg1]; exact (I_PT_noteBegun p hI)
  refine v_aload_n X 0 dX2_step_4 rfl rfl ?_
  refine v_aload_n X 1 dX2_step_5 rfl rfl ?_
  refine v_getI (i := (iP p)) (k := 5) X (lt_PT hp) (sh_PT hp) rfl in_PT (by decide) wf_MA_73 rfl (fun _ => rfl) dX2_step_6 ?_
  refine v_iconst (v := 4) X dX2_step_9 (by decide) ?_
  refine v_iadd X dX2_step_10 ?_
  refine v_put (i := iMA) (k := 6) (x := ((g1 (iP p) 5) + 4)) (ty := .int) X (lt_MA ) (sh_MA ) rfl in_MA (by decide) tyX2 tyX2_ok nX2 wf_MA_45 rfl rfl rfl rfl rfl (fun _ => Nat.le_of_ble_eq_true rfl) (fun _ _ => rfl) dX2_step_11 ?_
  generalize hg11 : (up g1 iMA 6 ((g1 (iP p) 5) + 4)) = g11
  have hI11 : Ic g11 := by rw [← hg11]; exact (Ic.upMA hI1)
  refine v_aload_n X 1 dX2_step_14 rfl rfl ?_
  refine v_callS_CI (rest := []) X [.ref (rh (iP p))] (c_MA_fetchFault hp g11 ) mf_MA_fetchFault ws_MA_fetchFault wm_MA_76 rfl ⟨by decide, by decide⟩ (Nat.le_of_ble_eq_true rfl) ⟨by decide, by decide⟩ dX2_step_15 ?_
  refine v_istore_n (lv' := [(2, .int (f_MA_fetchFault p g11)), (0, .ref (rh iMA)), (1, .ref (rh (iP p)))]) X dX2_step_18 rfl (by decide) rfl ?_
  refine v_iload_n X 0 dX2_step_19 rfl rfl ?_
  refine v_if_ne X 45 dX2_step_20 (by decide) (fun h20 => ?_) (fun h20 => ?_)
  ·
    refine v_iload_n X 0 dX2_step_45 rfl rfl ?_
    refine v_if_ne X 60 dX2_step_46 (by decide) (fun h46 => ?_) (fun h46 => ?_)
    ·
      refine v_aload_n X 2 dX2_step_60 rfl rfl ?_
      refine v_iload_n X 0 dX2_step_61 rfl rfl ?_
      refine v_aload_n X 1 dX2_step_62 rfl rfl ?_
      refine v_getR (j := iWO) (i := iMA) (k := 1) X (lt_MA ) (sh_MA ) rfl in_MA (by decide) wf_MA_15 rfl (fun _ => rfl) dX2_step_63 ?_
      refine v_callV_CV (rest := []) X [.int (f_MA_fetchFault p g11), .ref (rh iWO)] (c_PT_suffer hp (f_MA_fetchFault p g11) g11 hI11) mf_PT_suffer wi_PT_suffer wl_PT_suffer (lt_PT hp) (sh_PT hp) rfl wm_MA_87 rfl ⟨by decide, by decide⟩ (Nat.le_of_ble_eq_true rfl) ⟨by decide, by decide⟩ dX2_step_66 ?_
      generalize hg66 : (f_PT_suffer p (f_MA_fetchFault p g11) g11) = g66
      have hI66 : Ic g66 := by rw [← hg66]; exact (I_PT_suffer p (f_MA_fetchFault p g11) hI11)
      have e9 : f_MA_step p σ = g66 := by subst hg1; subst hg11; subst hg66; simp only [f_MA_step, if_neg h20]
      exact v_endV hend dX2_step_69 e9
    · exact absurd h46 h20
  ·
    refine v_aload_n X 1 dX2_step_23 rfl rfl ?_
    refine v_aload_n X 2 dX2_step_24 rfl rfl ?_
    refine v_aload_n X 1 dX2_step_25 rfl rfl ?_
    refine v_getR (j := iWO) (i := iMA) (k := 1) X (lt_MA ) (sh_MA ) rfl in_MA (by decide) wf_MA_15 rfl (fun _ => rfl) dX2_step_26 ?_
    refine v_aload_n X 2 dX2_step_29 rfl rfl ?_
    refine v_getI (i := (iP p)) (k := 1) X (lt_PT hp) (sh_PT hp) rfl in_PT (by decide) wf_MA_80 rfl (fun _ => rfl) dX2_step_30 ?_
    refine v_aload_n X 2 dX2_step_33 rfl rfl ?_
    refine v_getI (i := (iP p)) (k := 5) X (lt_PT hp) (sh_PT hp) rfl in_PT (by decide) wf_MA_73 rfl (fun _ => rfl) dX2_step_34 ?_
    refine v_iconst (v := 4) X dX2_step_37 (by decide) ?_
    refine v_idiv X (by decide) dX2_step_38 ?_
    refine v_iadd X dX2_step_39 ?_
    have hv40 : vp_in ((g11 (iP p) 1) + ((g11 (iP p) 5) / 4)) 96 := (ff_in hI11 hp h20)
    refine v_iald (i := iWO) (t0 := 0) X (lt_WO ) (sh_WO ) rfl hv40 dX2_step_40 ?_
    refine v_callV_CI (rest := []) X [.ref (rh (iP p)), .int (g11 iWO (((g11 (iP p) 1) + ((g11 (iP p) 5) / 4))).toNatClampNeg)] (c_MA_execute hp (g11 iWO (((g11 (iP p) 1) + ((g11 (iP p) 5) / 4))).toNatClampNeg) g11 hI11) mf_MA_execute wi_MA_execute wl_MA_execute (lt_MA ) (sh_MA ) rfl wm_MA_83 rfl ⟨by decide, by decide⟩ (Nat.le_of_ble_eq_true rfl) ⟨by decide, by decide⟩ dX2_step_41 ?_
    generalize hg41 : (f_MA_execute p (g11 iWO (((g11 (iP p) 1) + ((g11 (iP p) 5) / 4))).toNatClampNeg) g11) = g41
    have hI41 : Ic g41.2 := by rw [← hg41]; exact (I_MA_execute p (g11 iWO (((g11 (iP p) 1) + ((g11 (iP p) 5) / 4))).toNatClampNeg) hI11)
    refine v_istore_n (lv' := [(2, .int g41.1), (0, .ref (rh iMA)), (1, .ref (rh (iP p)))]) X dX2_step_44 rfl (by decide) rfl ?_
    refine v_iload_n X 0 dX2_step_45 rfl rfl ?_
    refine v_if_ne X 60 dX2_step_46 (by decide) (fun h46 => ?_) (fun h46 => ?_)
    ·
      refine v_aload_n X 2 dX2_step_60 rfl rfl ?_
      refine v_iload_n X 0 dX2_step_61 rfl rfl ?_
      refine v_aload_n X 1 dX2_step_62 rfl rfl ?_
      refine v_getR (j := iWO) (i := iMA) (k := 1) X (lt_MA ) (sh_MA ) rfl in_MA (by decide) wf_MA_15 rfl (fun _ => rfl) dX2_step_63 ?_
      refine v_callV_CV (rest := []) X [.int g41.1, .ref (rh iWO)] (c_PT_suffer hp g41.1 g41.2 hI41) mf_PT_suffer wi_PT_suffer wl_PT_suffer (lt_PT hp) (sh_PT hp) rfl wm_MA_87 rfl ⟨by decide, by decide⟩ (Nat.le_of_ble_eq_true rfl) ⟨by decide, by decide⟩ dX2_step_66 ?_
      generalize hg66 : (f_PT_suffer p g41.1 g41.2) = g66
      have hI66 : Ic g66 := by rw [← hg66]; exact (I_PT_suffer p g41.1 hI41)
      have e9 : f_MA_step p σ = g66 := by subst hg1; subst hg11; subst hg41; subst hg66; simp only [f_MA_step, if_pos h20, if_neg h46]
      exact v_endV hend dX2_step_69 e9
    ·
      refine v_aload_n X 2 dX2_step_49 rfl rfl ?_
      refine v_aload_n X 1 dX2_step_50 rfl rfl ?_
      refine v_getI (i := iMA) (k := 6) X (lt_MA ) (sh_MA ) rfl in_MA (by decide) wf_MA_45 rfl (fun _ => rfl) dX2_step_51 ?_
      refine v_put (i := (iP p)) (k := 5) (x := (g41.2 iMA 6)) (ty := .int) X (lt_PT hp) (sh_PT hp) rfl in_PT (by decide) tyX3 tyX3_ok nX3 wf_MA_73 rfl rfl rfl rfl rfl (fun _ => Nat.le_of_ble_eq_true rfl) (fun _ _ => rfl) dX2_step_54 ?_
      generalize hg54 : (up g41.2 (iP p) 5 (g41.2 iMA 6)) = g54
      have hI54 : Ic g54 := by rw [← hg54]; exact (Ic.upPT hI41 (by decide))
      refine v_goto (tgt := 69) X dX2_step_57 (by decide) ?_
      have e9 : f_MA_step p σ = g54 := by subst hg1; subst hg11; subst hg41; subst hg54; simp only [f_MA_step, if_pos h20, if_pos h46]
      exact v_endV hend dX2_step_69 e9
theorem I_MA_step (p : Nat) {σ : St} (hI : Ic σ) : Ic (f_MA_step p σ) := by
  unfold f_MA_step
  exact (ic_ite (fun _ => (ic_ite (fun _ => (Ic.upPT (I_MA_execute p ((up (f_PT_noteBegun p σ) iMA 6 (((f_PT_noteBegun p σ) (iP p) 5) + 4)) iWO ((((up (f_PT_noteBegun p σ) iMA 6 (((f_PT_noteBegun p σ) (iP p) 5) + 4)) (iP p) 1) + (((up (f_PT_noteBegun p σ) iMA 6 (((f_PT_noteBegun p σ) (iP p) 5) + 4)) (iP p) 5) / 4))).toNatClampNeg) (Ic.upMA (I_PT_noteBegun p hI))) (by decide))) (fun _ => (I_PT_suffer p (f_MA_execute p ((up (f_PT_noteBegun p σ) iMA 6 (((f_PT_noteBegun p σ) (iP p) 5) + 4)) iWO ((((up (f_PT_noteBegun p σ) iMA 6 (((f_PT_noteBegun p σ) (iP p) 5) + 4)) (iP p) 1) + (((up (f_PT_noteBegun p σ) iMA 6 (((f_PT_noteBegun p σ) (iP p) 5) + 4)) (iP p) 5) / 4))).toNatClampNeg) (up (f_PT_noteBegun p σ) iMA 6 (((f_PT_noteBegun p σ) (iP p) 5) + 4))).1 (I_MA_execute p ((up (f_PT_noteBegun p σ) iMA 6 (((f_PT_noteBegun p σ) (iP p) 5) + 4)) iWO ((((up (f_PT_noteBegun p σ) iMA 6 (((f_PT_noteBegun p σ) (iP p) 5) + 4)) (iP p) 1) + (((up (f_PT_noteBegun p σ) iMA 6 (((f_PT_noteBegun p σ) (iP p) 5) + 4)) (iP p) 5) / 4))).toNatClampNeg) (Ic.upMA (I_PT_noteBegun p hI))))))) (fun _ => (I_PT_suffer p (f_MA_fetchFault p (up (f_PT_noteBegun p σ) iMA 6 (((f_PT_noteBegun p σ) (iP p) 5) + 4))) (Ic.upMA (I_PT_noteBegun p hI)))))
end CLS
