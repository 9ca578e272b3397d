/-! CONSTRUCTORS: their words -/
theorem mfc_CH : MF yX0_init cX0_init 1 none 0 := ⟨gw_of (by decide +kernel) rfl, gw_of (by decide +kernel) rfl, by decide +kernel, by decide +kernel, by decide +kernel⟩
theorem mfc_MA : MF yX2_init cX2_init 3 none 1 := ⟨gw_of (by decide +kernel) rfl, gw_of (by decide +kernel) rfl, by decide +kernel, by decide +kernel, by decide +kernel⟩
theorem mfc_MO : MF yX8_init cX8_init 3 none 1 := ⟨gw_of (by decide +kernel) rfl, gw_of (by decide +kernel) rfl, by decide +kernel, by decide +kernel, by decide +kernel⟩
theorem mfc_PT : MF yX3_init cX3_init 2 none 1 := ⟨gw_of (by decide +kernel) rfl, gw_of (by decide +kernel) rfl, by decide +kernel, by decide +kernel, by decide +kernel⟩
theorem mfc_SL : MF yX5_init cX5_init 1 none 0 := ⟨gw_of (by decide +kernel) rfl, gw_of (by decide +kernel) rfl, by decide +kernel, by decide +kernel, by decide +kernel⟩
theorem mfc_SM : MF yX7_init cX7_init 2 none 1 := ⟨gw_of (by decide +kernel) rfl, gw_of (by decide +kernel) rfl, by decide +kernel, by decide +kernel, by decide +kernel⟩
theorem mfc_TT : MF yX6_init cX6_init 1 none 0 := ⟨gw_of (by decide +kernel) rfl, gw_of (by decide +kernel) rfl, by decide +kernel, by decide +kernel, by decide +kernel⟩
theorem wac_boolean : Cond.arrayClass .boolean ∈ gw := gw_of (by decide +kernel) rfl
theorem wac_int : Cond.arrayClass .int ∈ gw := gw_of (by decide +kernel) rfl
theorem wcl_MA_19 : Cond.classLink RX2 19 RX3 ∈ gw := gw_of (by decide +kernel) rfl
theorem wcl_MA_28 : Cond.classLink RX2 28 RX0 ∈ gw := gw_of (by decide +kernel) rfl
theorem wcl_MA_35 : Cond.classLink RX2 35 RX5 ∈ gw := gw_of (by decide +kernel) rfl
theorem wcl_SM_18 : Cond.classLink RX7 18 RX6 ∈ gw := gw_of (by decide +kernel) rfl
theorem wcl_SM_7 : Cond.classLink RX7 7 RX2 ∈ gw := gw_of (by decide +kernel) rfl
theorem wfc_CH_15 : Cond.fieldLink RX0 15 RX0 "readers" "I" ∈ gw := gw_of (by decide +kernel) rfl
theorem wfc_CH_18 : Cond.fieldLink RX0 18 RX0 "period" "I" ∈ gw := gw_of (by decide +kernel) rfl
theorem wfc_CH_21 : Cond.fieldLink RX0 21 RX0 "full" "Z" ∈ gw := gw_of (by decide +kernel) rfl
theorem wfc_CH_25 : Cond.fieldLink RX0 25 RX0 "value" "I" ∈ gw := gw_of (by decide +kernel) rfl
theorem wfc_CH_28 : Cond.fieldLink RX0 28 RX0 "hour" "I" ∈ gw := gw_of (by decide +kernel) rfl
theorem wfc_CH_9 : Cond.fieldLink RX0 9 RX0 "source" "I" ∈ gw := gw_of (by decide +kernel) rfl
theorem wfc_MA_15 : Cond.fieldLink RX2 15 RX2 "words" "[I" ∈ gw := gw_of (by decide +kernel) rfl
theorem wfc_MA_21 : Cond.fieldLink RX2 21 RX2 "partitions" "[LSeparationMonitor$Partition;" ∈ gw := gw_of (by decide +kernel) rfl
theorem wfc_MA_30 : Cond.fieldLink RX2 30 RX2 "channels" "[LSeparationMonitor$Channel;" ∈ gw := gw_of (by decide +kernel) rfl
theorem wfc_MA_37 : Cond.fieldLink RX2 37 RX2 "slots" "[LSeparationMonitor$Slot;" ∈ gw := gw_of (by decide +kernel) rfl
theorem wfc_MA_42 : Cond.fieldLink RX2 42 RX2 "time" "I" ∈ gw := gw_of (by decide +kernel) rfl
theorem wfc_MA_45 : Cond.fieldLink RX2 45 RX2 "next" "I" ∈ gw := gw_of (by decide +kernel) rfl
theorem wfc_MA_9 : Cond.fieldLink RX2 9 RX2 "key" "I" ∈ gw := gw_of (by decide +kernel) rfl
theorem wfc_MO_13 : Cond.fieldLink RX8 13 RX8 "image" "[I" ∈ gw := gw_of (by decide +kernel) rfl
theorem wfc_MO_16 : Cond.fieldLink RX8 16 RX8 "register" "[I" ∈ gw := gw_of (by decide +kernel) rfl
theorem wfc_MO_19 : Cond.fieldLink RX8 19 RX8 "from" "[I" ∈ gw := gw_of (by decide +kernel) rfl
theorem wfc_MO_22 : Cond.fieldLink RX8 22 RX8 "size" "[I" ∈ gw := gw_of (by decide +kernel) rfl
theorem wfc_MO_25 : Cond.fieldLink RX8 25 RX8 "policy" "[I" ∈ gw := gw_of (by decide +kernel) rfl
theorem wfc_MO_28 : Cond.fieldLink RX8 28 RX8 "pc" "[I" ∈ gw := gw_of (by decide +kernel) rfl
theorem wfc_MO_31 : Cond.fieldLink RX8 31 RX8 "faults" "[I" ∈ gw := gw_of (by decide +kernel) rfl
theorem wfc_MO_34 : Cond.fieldLink RX8 34 RX8 "kind" "[I" ∈ gw := gw_of (by decide +kernel) rfl
theorem wfc_MO_37 : Cond.fieldLink RX8 37 RX8 "restarts" "[I" ∈ gw := gw_of (by decide +kernel) rfl
theorem wfc_MO_40 : Cond.fieldLink RX8 40 RX8 "begun" "[I" ∈ gw := gw_of (by decide +kernel) rfl
theorem wfc_MO_43 : Cond.fieldLink RX8 43 RX8 "measure" "[I" ∈ gw := gw_of (by decide +kernel) rfl
theorem wfc_MO_46 : Cond.fieldLink RX8 46 RX8 "ready" "[Z" ∈ gw := gw_of (by decide +kernel) rfl
theorem wfc_MO_50 : Cond.fieldLink RX8 50 RX8 "full" "[Z" ∈ gw := gw_of (by decide +kernel) rfl
theorem wfc_MO_53 : Cond.fieldLink RX8 53 RX8 "owner" "[I" ∈ gw := gw_of (by decide +kernel) rfl
theorem wfc_MO_56 : Cond.fieldLink RX8 56 RX8 "length" "[I" ∈ gw := gw_of (by decide +kernel) rfl
theorem wfc_MO_59 : Cond.fieldLink RX8 59 RX8 "source" "[I" ∈ gw := gw_of (by decide +kernel) rfl
theorem wfc_MO_62 : Cond.fieldLink RX8 62 RX8 "readers" "[I" ∈ gw := gw_of (by decide +kernel) rfl
theorem wfc_MO_65 : Cond.fieldLink RX8 65 RX8 "period" "[I" ∈ gw := gw_of (by decide +kernel) rfl
theorem wfc_MO_68 : Cond.fieldLink RX8 68 RX8 "value" "[I" ∈ gw := gw_of (by decide +kernel) rfl
theorem wfc_MO_7 : Cond.fieldLink RX8 7 RX8 "memory" "[I" ∈ gw := gw_of (by decide +kernel) rfl
theorem wfc_MO_71 : Cond.fieldLink RX8 71 RX8 "hour" "[I" ∈ gw := gw_of (by decide +kernel) rfl
theorem wfc_MO_74 : Cond.fieldLink RX8 74 RX8 "holds" "[I" ∈ gw := gw_of (by decide +kernel) rfl
theorem wfc_MO_77 : Cond.fieldLink RX8 77 RX8 "seal" "[I" ∈ gw := gw_of (by decide +kernel) rfl
theorem wfc_MO_80 : Cond.fieldLink RX8 80 RX8 "secret" "I" ∈ gw := gw_of (by decide +kernel) rfl
theorem wfc_PT_15 : Cond.fieldLink RX3 15 RX3 "first" "I" ∈ gw := gw_of (by decide +kernel) rfl
theorem wfc_PT_18 : Cond.fieldLink RX3 18 RX3 "size" "I" ∈ gw := gw_of (by decide +kernel) rfl
theorem wfc_PT_21 : Cond.fieldLink RX3 21 RX3 "how" "I" ∈ gw := gw_of (by decide +kernel) rfl
theorem wfc_PT_24 : Cond.fieldLink RX3 24 RX3 "measurement" "I" ∈ gw := gw_of (by decide +kernel) rfl
theorem wfc_PT_27 : Cond.fieldLink RX3 27 RX3 "pc" "I" ∈ gw := gw_of (by decide +kernel) rfl
theorem wfc_PT_30 : Cond.fieldLink RX3 30 RX3 "ready" "Z" ∈ gw := gw_of (by decide +kernel) rfl
theorem wfc_PT_34 : Cond.fieldLink RX3 34 RX3 "resting" "Z" ∈ gw := gw_of (by decide +kernel) rfl
theorem wfc_PT_37 : Cond.fieldLink RX3 37 RX3 "registers" "[I" ∈ gw := gw_of (by decide +kernel) rfl
theorem wfc_PT_41 : Cond.fieldLink RX3 41 RX3 "image" "[I" ∈ gw := gw_of (by decide +kernel) rfl
theorem wfc_PT_44 : Cond.fieldLink RX3 44 RX3 "faults" "I" ∈ gw := gw_of (by decide +kernel) rfl
theorem wfc_PT_47 : Cond.fieldLink RX3 47 RX3 "latestFault" "I" ∈ gw := gw_of (by decide +kernel) rfl
theorem wfc_PT_50 : Cond.fieldLink RX3 50 RX3 "restarts" "I" ∈ gw := gw_of (by decide +kernel) rfl
theorem wfc_PT_53 : Cond.fieldLink RX3 53 RX3 "begun" "I" ∈ gw := gw_of (by decide +kernel) rfl
theorem wfc_PT_9 : Cond.fieldLink RX3 9 RX3 "number" "I" ∈ gw := gw_of (by decide +kernel) rfl
theorem wfc_SL_13 : Cond.fieldLink RX5 13 RX5 "mark" "I" ∈ gw := gw_of (by decide +kernel) rfl
theorem wfc_SL_7 : Cond.fieldLink RX5 7 RX5 "held" "I" ∈ gw := gw_of (by decide +kernel) rfl
theorem wfc_SM_12 : Cond.fieldLink RX7 12 RX7 "machine" "LSeparationMonitor$Machine;" ∈ gw := gw_of (by decide +kernel) rfl
theorem wfc_SM_21 : Cond.fieldLink RX7 21 RX7 "timetable" "LSeparationMonitor$Timetable;" ∈ gw := gw_of (by decide +kernel) rfl
theorem wfc_SM_25 : Cond.fieldLink RX7 25 RX7 "booted" "Z" ∈ gw := gw_of (by decide +kernel) rfl
theorem wfc_SM_29 : Cond.fieldLink RX7 29 RX7 "boots" "I" ∈ gw := gw_of (by decide +kernel) rfl
theorem wfc_SM_33 : Cond.fieldLink RX7 33 RX7 "log" "I" ∈ gw := gw_of (by decide +kernel) rfl
theorem wfc_TT_15 : Cond.fieldLink RX6 15 RX6 "lengths" "[I" ∈ gw := gw_of (by decide +kernel) rfl
theorem wfc_TT_18 : Cond.fieldLink RX6 18 RX6 "size" "I" ∈ gw := gw_of (by decide +kernel) rfl
theorem wfc_TT_22 : Cond.fieldLink RX6 22 RX6 "current" "I" ∈ gw := gw_of (by decide +kernel) rfl
theorem wfc_TT_25 : Cond.fieldLink RX6 25 RX6 "left" "I" ∈ gw := gw_of (by decide +kernel) rfl
theorem wfc_TT_28 : Cond.fieldLink RX6 28 RX6 "begun" "I" ∈ gw := gw_of (by decide +kernel) rfl
theorem wfc_TT_9 : Cond.fieldLink RX6 9 RX6 "partitions" "[I" ∈ gw := gw_of (by decide +kernel) rfl
theorem win_CH : Cond.instantiable RX0 6 ∈ gw := gw_of (by decide +kernel) rfl
theorem win_MA : Cond.instantiable RX2 7 ∈ gw := gw_of (by decide +kernel) rfl
theorem win_PT : Cond.instantiable RX3 14 ∈ gw := gw_of (by decide +kernel) rfl
theorem win_SL : Cond.instantiable RX5 2 ∈ gw := gw_of (by decide +kernel) rfl
theorem win_TT : Cond.instantiable RX6 6 ∈ gw := gw_of (by decide +kernel) rfl
theorem wiq_CH_init : Cond.instanceMethod yX0_init ∈ gw := gw_of (by decide +kernel) rfl
theorem wiq_MA_init : Cond.instanceMethod yX2_init ∈ gw := gw_of (by decide +kernel) rfl
theorem wiq_PT_init : Cond.instanceMethod yX3_init ∈ gw := gw_of (by decide +kernel) rfl
theorem wiq_SL_init : Cond.instanceMethod yX5_init ∈ gw := gw_of (by decide +kernel) rfl
theorem wiq_TT_init : Cond.instanceMethod yX6_init ∈ gw := gw_of (by decide +kernel) rfl
theorem wit_CH : Cond.initialized RX0 ∈ gw := gw_of (by decide +kernel) rfl
theorem wit_MA : Cond.initialized RX2 ∈ gw := gw_of (by decide +kernel) rfl
theorem wit_PT : Cond.initialized RX3 ∈ gw := gw_of (by decide +kernel) rfl
theorem wit_SL : Cond.initialized RX5 ∈ gw := gw_of (by decide +kernel) rfl
theorem wit_TT : Cond.initialized RX6 ∈ gw := gw_of (by decide +kernel) rfl
theorem wmc_MA_25 : Cond.methodLink RX2 25 yX3_init ∈ gw := gw_of (by decide +kernel) rfl
theorem wmc_MA_34 : Cond.methodLink RX2 34 yX0_init ∈ gw := gw_of (by decide +kernel) rfl
theorem wmc_MA_41 : Cond.methodLink RX2 41 yX5_init ∈ gw := gw_of (by decide +kernel) rfl
theorem wmc_SM_20 : Cond.methodLink RX7 20 yX6_init ∈ gw := gw_of (by decide +kernel) rfl
theorem wmc_SM_9 : Cond.methodLink RX7 9 yX2_init ∈ gw := gw_of (by decide +kernel) rfl
theorem wob_CH : Cond.methodLink RX0 3 objectInit ∈ gw := gw_of (by decide +kernel) rfl
theorem wob_MA : Cond.methodLink RX2 3 objectInit ∈ gw := gw_of (by decide +kernel) rfl
theorem wob_MO : Cond.methodLink RX8 1 objectInit ∈ gw := gw_of (by decide +kernel) rfl
theorem wob_PT : Cond.methodLink RX3 3 objectInit ∈ gw := gw_of (by decide +kernel) rfl
theorem wob_SL : Cond.methodLink RX5 1 objectInit ∈ gw := gw_of (by decide +kernel) rfl
theorem wob_SM : Cond.methodLink RX7 1 objectInit ∈ gw := gw_of (by decide +kernel) rfl
theorem wob_TT : Cond.methodLink RX6 3 objectInit ∈ gw := gw_of (by decide +kernel) rfl
theorem wob_c : Cond.code objectInit ⟨#[0xb1]⟩ 1 none ∈ gw := gw_of (by decide +kernel) rfl
theorem wob_i : Cond.instanceMethod objectInit ∈ gw := gw_of (by decide +kernel) rfl
theorem n_ws {p : Program} {l : Launch} {e : Env} {R : Room} {s : State} {m : MethodId} {args : Array Value} {below : List Frame} {meth : Method} {c : Code} {D : va_G} {A : Nat → Prop} {nL cells slots : Nat} {Q : State → Prop} {pc : Nat} {lv : List (Nat × Value)} {st : List Value} {ws ws' : va_W} (h : ws = ws') (kk : Wn p l e R s m args below meth c D A nL cells slots Q pc lv st ws') : Wn p l e R s m args below meth c D A nL cells slots Q pc lv st ws := by
  subst h; exact kk
set_option maxHeartbeats 4000000 in
set_option maxRecDepth 100000 in
theorem n_CH_init {l : Launch} {D : va_G} {cA : Nat → ClassId} (h0 : Nat) : CN l D cA yX0_init cX0_init 1 1 0 0 [.ref h0] [(h0, .inr (0, [.int 0, .int 0, .int 0, .int 0, .int 0, .int 0]))] (fun w => w = [(h0, .inr (0, [.int (-1), .int 0, .int 1, .int 0, .int 0, .int 0]))]) := by
  refine CN.of rfl rfl (Nat.le_of_ble_eq_true rfl) ?_
  intro p e s m args below meth c A Q X hin2 hend
  refine n_lv (lv' := [(0, .ref h0)]) [0] rfl ?_
  refine n_aload_n X 0 dX0_init_0 rfl rfl ?_
  refine n_obj X wob_CH wob_i wob_c (by decide) (by decide) dX0_init_1 ?_
  refine n_aload_n X 0 dX0_init_4 rfl rfl ?_
  refine n_iconst (v := (-1)) X dX0_init_5 (by decide) ?_
  refine n_put (ci := 0) (k := 0) (C := RX0) (T := TX0) (N := 6) (ty := .int) (v := .int (-1)) (ws' := [(h0, .inr (0, [.int (-1), .int 0, .int 0, .int 0, .int 0, .int 0]))]) X 0 rfl rfl in_CH (by decide) tyX0 tyX0_ok nX0 wfc_CH_9 rfl rfl (by decide +kernel) rfl rfl (Nat.le_of_ble_eq_true rfl) dX0_init_6 rfl ?_
  refine n_aload_n X 0 dX0_init_9 rfl rfl ?_
  refine n_iconst (v := 0) X dX0_init_10 (by decide) ?_
  refine n_put (ci := 0) (k := 1) (C := RX0) (T := TX0) (N := 6) (ty := .int) (v := .int 0) (ws' := [(h0, .inr (0, [.int (-1), .int 0, .int 0, .int 0, .int 0, .int 0]))]) X 0 rfl rfl in_CH (by decide) tyX0 tyX0_ok nX0 wfc_CH_15 rfl rfl (by decide +kernel) rfl rfl (Nat.le_of_ble_eq_true rfl) dX0_init_11 rfl ?_
  refine n_aload_n X 0 dX0_init_14 rfl rfl ?_
  refine n_iconst (v := 1) X dX0_init_15 (by decide) ?_
  refine n_put (ci := 0) (k := 2) (C := RX0) (T := TX0) (N := 6) (ty := .int) (v := .int 1) (ws' := [(h0, .inr (0, [.int (-1), .int 0, .int 1, .int 0, .int 0, .int 0]))]) X 0 rfl rfl in_CH (by decide) tyX0 tyX0_ok nX0 wfc_CH_18 rfl rfl (by decide +kernel) rfl rfl (Nat.le_of_ble_eq_true rfl) dX0_init_16 rfl ?_
  refine n_aload_n X 0 dX0_init_19 rfl rfl ?_
  refine n_iconst (v := 0) X dX0_init_20 (by decide) ?_
  refine n_put (ci := 0) (k := 3) (C := RX0) (T := TX0) (N := 6) (ty := .boolean) (v := .int 0) (ws' := [(h0, .inr (0, [.int (-1), .int 0, .int 1, .int 0, .int 0, .int 0]))]) X 0 rfl rfl in_CH (by decide) tyX0 tyX0_ok nX0 wfc_CH_21 rfl rfl (by decide +kernel) rfl rfl (Nat.le_of_ble_eq_true rfl) dX0_init_21 rfl ?_
  refine n_aload_n X 0 dX0_init_24 rfl rfl ?_
  refine n_iconst (v := 0) X dX0_init_25 (by decide) ?_
  refine n_put (ci := 0) (k := 4) (C := RX0) (T := TX0) (N := 6) (ty := .int) (v := .int 0) (ws' := [(h0, .inr (0, [.int (-1), .int 0, .int 1, .int 0, .int 0, .int 0]))]) X 0 rfl rfl in_CH (by decide) tyX0 tyX0_ok nX0 wfc_CH_25 rfl rfl (by decide +kernel) rfl rfl (Nat.le_of_ble_eq_true rfl) dX0_init_26 rfl ?_
  refine n_aload_n X 0 dX0_init_29 rfl rfl ?_
  refine n_iconst (v := 0) X dX0_init_30 (by decide) ?_
  refine n_put (ci := 0) (k := 5) (C := RX0) (T := TX0) (N := 6) (ty := .int) (v := .int 0) (ws' := [(h0, .inr (0, [.int (-1), .int 0, .int 1, .int 0, .int 0, .int 0]))]) X 0 rfl rfl in_CH (by decide) tyX0 tyX0_ok nX0 wfc_CH_28 rfl rfl (by decide +kernel) rfl rfl (Nat.le_of_ble_eq_true rfl) dX0_init_31 rfl ?_
  exact hend 34 _ _ _ _ rfl (by decide) (by decide) dX0_init_34
set_option maxHeartbeats 4000000 in
set_option maxRecDepth 100000 in
theorem n_SL_init {l : Launch} {D : va_G} {cA : Nat → ClassId} (h0 : Nat) : CN l D cA yX5_init cX5_init 1 1 0 0 [.ref h0] [(h0, .inr (3, [.int 0, .int 0]))] (fun w => w = [(h0, .inr (3, [.int 0, .int 0]))]) := by
  refine CN.of rfl rfl (Nat.le_of_ble_eq_true rfl) ?_
  intro p e s m args below meth c A Q X hin2 hend
  refine n_lv (lv' := [(0, .ref h0)]) [0] rfl ?_
  refine n_aload_n X 0 dX5_init_0 rfl rfl ?_
  refine n_obj X wob_SL wob_i wob_c (by decide) (by decide) dX5_init_1 ?_
  refine n_aload_n X 0 dX5_init_4 rfl rfl ?_
  refine n_iconst (v := 0) X dX5_init_5 (by decide) ?_
  refine n_put (ci := 3) (k := 0) (C := RX5) (T := TX5) (N := 2) (ty := .int) (v := .int 0) (ws' := [(h0, .inr (3, [.int 0, .int 0]))]) X 0 rfl rfl in_SL (by decide) tyX5 tyX5_ok nX5 wfc_SL_7 rfl rfl (by decide +kernel) rfl rfl (Nat.le_of_ble_eq_true rfl) dX5_init_6 rfl ?_
  refine n_aload_n X 0 dX5_init_9 rfl rfl ?_
  refine n_iconst (v := 0) X dX5_init_10 (by decide) ?_
  refine n_put (ci := 3) (k := 1) (C := RX5) (T := TX5) (N := 2) (ty := .int) (v := .int 0) (ws' := [(h0, .inr (3, [.int 0, .int 0]))]) X 0 rfl rfl in_SL (by decide) tyX5 tyX5_ok nX5 wfc_SL_13 rfl rfl (by decide +kernel) rfl rfl (Nat.le_of_ble_eq_true rfl) dX5_init_11 rfl ?_
  exact hend 14 _ _ _ _ rfl (by decide) (by decide) dX5_init_14
set_option maxHeartbeats 4000000 in
set_option maxRecDepth 100000 in
theorem n_TT_init {l : Launch} {D : va_G} {cA : Nat → ClassId} (h0 : Nat) : CN l D cA yX6_init cX6_init 1 1 2 12 [.ref h0] [(h0, .inr (4, [.null, .null, .int 0, .int 0, .int 0, .int 0]))] (fun w => ∃ qi0 qi1 : Nat, w = [(h0, .inr (4, [.ref qi0, .ref qi1, .int 0, .int 0, .int 0, .int 0])), (qi0, .inl (cA 0, 6, .inl (fun _ => 0))), (qi1, .inl (cA 0, 6, .inl (fun _ => 0)))]) := by
  refine CN.of rfl rfl (Nat.le_of_ble_eq_true rfl) ?_
  intro p e s m args below meth c A Q X hin2 hend
  refine n_lv (lv' := [(0, .ref h0)]) [0] rfl ?_
  refine n_aload_n X 0 dX6_init_0 rfl rfl ?_
  refine n_obj X wob_TT wob_i wob_c (by decide) (by decide) dX6_init_1 ?_
  refine n_aload_n X 0 dX6_init_4 rfl rfl ?_
  refine n_bipush (v := 6) X dX6_init_5 (by decide) ?_
  refine n_newa (ty := .int) (t0 := 0) (c0 := cA 0) (N' := 6) (a0 := (6, .inl (fun _ => 0))) X rfl wac_int rfl (fun _ => rfl) (by decide) (by decide) (by decide) (by decide) (by decide) dX6_init_7 (fun qi0 => ?_)
  refine n_ws (ws' := [(h0, .inr (4, [.null, .null, .int 0, .int 0, .int 0, .int 0])), (qi0, .inl (cA 0, 6, .inl (fun _ => 0)))]) rfl ?_
  refine n_putF (ci := 4) (k := 0) (C := RX6) (T := TX6) (N := 6) (ty := (.array .int)) (v := .ref qi0) (ws' := [(h0, .inr (4, [.ref qi0, .null, .int 0, .int 0, .int 0, .int 0])), (qi0, .inl (cA 0, 6, .inl (fun _ => 0)))]) X hin2 0 rfl rfl in_TT (by decide) tyX6 tyX6_ok nX6 wfc_TT_9 rfl rfl rfl (by decide +kernel) rfl rfl (Nat.le_of_ble_eq_true rfl) dX6_init_9 rfl ?_
  refine n_aload_n X 0 dX6_init_12 rfl rfl ?_
  refine n_bipush (v := 6) X dX6_init_13 (by decide) ?_
  refine n_newa (ty := .int) (t0 := 0) (c0 := cA 0) (N' := 6) (a0 := (6, .inl (fun _ => 0))) X rfl wac_int rfl (fun _ => rfl) (by decide) (by decide) (by decide) (by decide) (by decide) dX6_init_15 (fun qi1 => ?_)
  refine n_ws (ws' := [(h0, .inr (4, [.ref qi0, .null, .int 0, .int 0, .int 0, .int 0])), (qi0, .inl (cA 0, 6, .inl (fun _ => 0))), (qi1, .inl (cA 0, 6, .inl (fun _ => 0)))]) rfl ?_
  refine n_putF (ci := 4) (k := 1) (C := RX6) (T := TX6) (N := 6) (ty := (.array .int)) (v := .ref qi1) (ws' := [(h0, .inr (4, [.ref qi0, .ref qi1, .int 0, .int 0, .int 0, .int 0])), (qi0, .inl (cA 0, 6, .inl (fun _ => 0))), (qi1, .inl (cA 0, 6, .inl (fun _ => 0)))]) X hin2 0 rfl rfl in_TT (by decide) tyX6 tyX6_ok nX6 wfc_TT_15 rfl rfl rfl (by decide +kernel) rfl rfl (Nat.le_of_ble_eq_true rfl) dX6_init_17 rfl ?_
  refine n_aload_n X 0 dX6_init_20 rfl rfl ?_
  refine n_iconst (v := 0) X dX6_init_21 (by decide) ?_
  refine n_put (ci := 4) (k := 2) (C := RX6) (T := TX6) (N := 6) (ty := .int) (v := .int 0) (ws' := [(h0, .inr (4, [.ref qi0, .ref qi1, .int 0, .int 0, .int 0, .int 0])), (qi0, .inl (cA 0, 6, .inl (fun _ => 0))), (qi1, .inl (cA 0, 6, .inl (fun _ => 0)))]) X 0 rfl rfl in_TT (by decide) tyX6 tyX6_ok nX6 wfc_TT_18 rfl rfl (by decide +kernel) rfl rfl (Nat.le_of_ble_eq_true rfl) dX6_init_22 rfl ?_
  refine n_aload_n X 0 dX6_init_25 rfl rfl ?_
  refine n_iconst (v := 0) X dX6_init_26 (by decide) ?_
  refine n_put (ci := 4) (k := 3) (C := RX6) (T := TX6) (N := 6) (ty := .int) (v := .int 0) (ws' := [(h0, .inr (4, [.ref qi0, .ref qi1, .int 0, .int 0, .int 0, .int 0])), (qi0, .inl (cA 0, 6, .inl (fun _ => 0))), (qi1, .inl (cA 0, 6, .inl (fun _ => 0)))]) X 0 rfl rfl in_TT (by decide) tyX6 tyX6_ok nX6 wfc_TT_22 rfl rfl (by decide +kernel) rfl rfl (Nat.le_of_ble_eq_true rfl) dX6_init_27 rfl ?_
  refine n_aload_n X 0 dX6_init_30 rfl rfl ?_
  refine n_iconst (v := 0) X dX6_init_31 (by decide) ?_
  refine n_put (ci := 4) (k := 4) (C := RX6) (T := TX6) (N := 6) (ty := .int) (v := .int 0) (ws' := [(h0, .inr (4, [.ref qi0, .ref qi1, .int 0, .int 0, .int 0, .int 0])), (qi0, .inl (cA 0, 6, .inl (fun _ => 0))), (qi1, .inl (cA 0, 6, .inl (fun _ => 0)))]) X 0 rfl rfl in_TT (by decide) tyX6 tyX6_ok nX6 wfc_TT_25 rfl rfl (by decide +kernel) rfl rfl (Nat.le_of_ble_eq_true rfl) dX6_init_32 rfl ?_
  refine n_aload_n X 0 dX6_init_35 rfl rfl ?_
  refine n_iconst (v := 0) X dX6_init_36 (by decide) ?_
  refine n_put (ci := 4) (k := 5) (C := RX6) (T := TX6) (N := 6) (ty := .int) (v := .int 0) (ws' := [(h0, .inr (4, [.ref qi0, .ref qi1, .int 0, .int 0, .int 0, .int 0])), (qi0, .inl (cA 0, 6, .inl (fun _ => 0))), (qi1, .inl (cA 0, 6, .inl (fun _ => 0)))]) X 0 rfl rfl in_TT (by decide) tyX6 tyX6_ok nX6 wfc_TT_28 rfl rfl (by decide +kernel) rfl rfl (Nat.le_of_ble_eq_true rfl) dX6_init_37 rfl ?_
  exact hend 40 _ _ _ _ ⟨qi0, qi1, rfl⟩ (by decide) (by decide) dX6_init_40
set_option maxHeartbeats 4000000 in
set_option maxRecDepth 100000 in
theorem n_PT_init {l : Launch} {D : va_G} {cA : Nat → ClassId} (h0 : Nat) (num : Int32) : CN l D cA yX3_init cX3_init 2 1 2 48 [.ref h0, .int num] [(h0, .inr (2, [.int 0, .int 0, .int 0, .int 0, .int 0, .int 0, .int 0, .int 0, .null, .null, .int 0, .int 0, .int 0, .int 0]))] (fun w => ∃ qi0 qi1 : Nat, w = [(h0, .inr (2, [.int num, .int 0, .int 0, .int 0, .int 0, .int 0, .int 0, .int 0, .ref qi0, .ref qi1, .int 0, .int 0, .int 0, .int 0])), (qi0, .inl (cA 0, 16, .inl (fun _ => 0))), (qi1, .inl (cA 0, 32, .inl (fun _ => 0)))]) := by
  refine CN.of rfl rfl (Nat.le_of_ble_eq_true rfl) ?_
  intro p e s m args below meth c A Q X hin2 hend
  refine n_lv (lv' := [(0, .ref h0), (1, .int num)]) [0, 1] rfl ?_
  refine n_aload_n X 0 dX3_init_0 rfl rfl ?_
  refine n_obj X wob_PT wob_i wob_c (by decide) (by decide) dX3_init_1 ?_
  refine n_aload_n X 0 dX3_init_4 rfl rfl ?_
  refine n_iload_n X 1 dX3_init_5 rfl rfl ?_
  refine n_putF (ci := 2) (k := 0) (C := RX3) (T := TX3) (N := 14) (ty := .int) (v := .int num) (ws' := [(h0, .inr (2, [.int num, .int 0, .int 0, .int 0, .int 0, .int 0, .int 0, .int 0, .null, .null, .int 0, .int 0, .int 0, .int 0]))]) X hin2 0 rfl rfl in_PT (by decide) tyX3 tyX3_ok nX3 wfc_PT_9 rfl rfl rfl (by decide +kernel) rfl rfl (Nat.le_of_ble_eq_true rfl) dX3_init_6 rfl ?_
  refine n_aload_n X 0 dX3_init_9 rfl rfl ?_
  refine n_iconst (v := 0) X dX3_init_10 (by decide) ?_
  refine n_put (ci := 2) (k := 1) (C := RX3) (T := TX3) (N := 14) (ty := .int) (v := .int 0) (ws' := [(h0, .inr (2, [.int num, .int 0, .int 0, .int 0, .int 0, .int 0, .int 0, .int 0, .null, .null, .int 0, .int 0, .int 0, .int 0]))]) X 0 rfl rfl in_PT (by decide) tyX3 tyX3_ok nX3 wfc_PT_15 rfl rfl (by decide +kernel) rfl rfl (Nat.le_of_ble_eq_true rfl) dX3_init_11 rfl ?_
  refine n_aload_n X 0 dX3_init_14 rfl rfl ?_
  refine n_iconst (v := 0) X dX3_init_15 (by decide) ?_
  refine n_put (ci := 2) (k := 2) (C := RX3) (T := TX3) (N := 14) (ty := .int) (v := .int 0) (ws' := [(h0, .inr (2, [.int num, .int 0, .int 0, .int 0, .int 0, .int 0, .int 0, .int 0, .null, .null, .int 0, .int 0, .int 0, .int 0]))]) X 0 rfl rfl in_PT (by decide) tyX3 tyX3_ok nX3 wfc_PT_18 rfl rfl (by decide +kernel) rfl rfl (Nat.le_of_ble_eq_true rfl) dX3_init_16 rfl ?_
  refine n_aload_n X 0 dX3_init_19 rfl rfl ?_
  refine n_iconst (v := 0) X dX3_init_20 (by decide) ?_
  refine n_put (ci := 2) (k := 3) (C := RX3) (T := TX3) (N := 14) (ty := .int) (v := .int 0) (ws' := [(h0, .inr (2, [.int num, .int 0, .int 0, .int 0, .int 0, .int 0, .int 0, .int 0, .null, .null, .int 0, .int 0, .int 0, .int 0]))]) X 0 rfl rfl in_PT (by decide) tyX3 tyX3_ok nX3 wfc_PT_21 rfl rfl (by decide +kernel) rfl rfl (Nat.le_of_ble_eq_true rfl) dX3_init_21 rfl ?_
  refine n_aload_n X 0 dX3_init_24 rfl rfl ?_
  refine n_iconst (v := 0) X dX3_init_25 (by decide) ?_
  refine n_put (ci := 2) (k := 4) (C := RX3) (T := TX3) (N := 14) (ty := .int) (v := .int 0) (ws' := [(h0, .inr (2, [.int num, .int 0, .int 0, .int 0, .int 0, .int 0, .int 0, .int 0, .null, .null, .int 0, .int 0, .int 0, .int 0]))]) X 0 rfl rfl in_PT (by decide) tyX3 tyX3_ok nX3 wfc_PT_24 rfl rfl (by decide +kernel) rfl rfl (Nat.le_of_ble_eq_true rfl) dX3_init_26 rfl ?_
  refine n_aload_n X 0 dX3_init_29 rfl rfl ?_
  refine n_iconst (v := 0) X dX3_init_30 (by decide) ?_
  refine n_put (ci := 2) (k := 5) (C := RX3) (T := TX3) (N := 14) (ty := .int) (v := .int 0) (ws' := [(h0, .inr (2, [.int num, .int 0, .int 0, .int 0, .int 0, .int 0, .int 0, .int 0, .null, .null, .int 0, .int 0, .int 0, .int 0]))]) X 0 rfl rfl in_PT (by decide) tyX3 tyX3_ok nX3 wfc_PT_27 rfl rfl (by decide +kernel) rfl rfl (Nat.le_of_ble_eq_true rfl) dX3_init_31 rfl ?_
  refine n_aload_n X 0 dX3_init_34 rfl rfl ?_
  refine n_iconst (v := 0) X dX3_init_35 (by decide) ?_
  refine n_put (ci := 2) (k := 6) (C := RX3) (T := TX3) (N := 14) (ty := .boolean) (v := .int 0) (ws' := [(h0, .inr (2, [.int num, .int 0, .int 0, .int 0, .int 0, .int 0, .int 0, .int 0, .null, .null, .int 0, .int 0, .int 0, .int 0]))]) X 0 rfl rfl in_PT (by decide) tyX3 tyX3_ok nX3 wfc_PT_30 rfl rfl (by decide +kernel) rfl rfl (Nat.le_of_ble_eq_true rfl) dX3_init_36 rfl ?_
  refine n_aload_n X 0 dX3_init_39 rfl rfl ?_
  refine n_iconst (v := 0) X dX3_init_40 (by decide) ?_
  refine n_put (ci := 2) (k := 7) (C := RX3) (T := TX3) (N := 14) (ty := .boolean) (v := .int 0) (ws' := [(h0, .inr (2, [.int num, .int 0, .int 0, .int 0, .int 0, .int 0, .int 0, .int 0, .null, .null, .int 0, .int 0, .int 0, .int 0]))]) X 0 rfl rfl in_PT (by decide) tyX3 tyX3_ok nX3 wfc_PT_34 rfl rfl (by decide +kernel) rfl rfl (Nat.le_of_ble_eq_true rfl) dX3_init_41 rfl ?_
  refine n_aload_n X 0 dX3_init_44 rfl rfl ?_
  refine n_bipush (v := 16) X dX3_init_45 (by decide) ?_
  refine n_newa (ty := .int) (t0 := 0) (c0 := cA 0) (N' := 16) (a0 := (16, .inl (fun _ => 0))) X rfl wac_int rfl (fun _ => rfl) (by decide) (by decide) (by decide) (by decide) (by decide) dX3_init_47 (fun qi0 => ?_)
  refine n_ws (ws' := [(h0, .inr (2, [.int num, .int 0, .int 0, .int 0, .int 0, .int 0, .int 0, .int 0, .null, .null, .int 0, .int 0, .int 0, .int 0])), (qi0, .inl (cA 0, 16, .inl (fun _ => 0)))]) rfl ?_
  refine n_putF (ci := 2) (k := 8) (C := RX3) (T := TX3) (N := 14) (ty := (.array .int)) (v := .ref qi0) (ws' := [(h0, .inr (2, [.int num, .int 0, .int 0, .int 0, .int 0, .int 0, .int 0, .int 0, .ref qi0, .null, .int 0, .int 0, .int 0, .int 0])), (qi0, .inl (cA 0, 16, .inl (fun _ => 0)))]) X hin2 0 rfl rfl in_PT (by decide) tyX3 tyX3_ok nX3 wfc_PT_37 rfl rfl rfl (by decide +kernel) rfl rfl (Nat.le_of_ble_eq_true rfl) dX3_init_49 rfl ?_
  refine n_aload_n X 0 dX3_init_52 rfl rfl ?_
  refine n_bipush (v := 32) X dX3_init_53 (by decide) ?_
  refine n_newa (ty := .int) (t0 := 0) (c0 := cA 0) (N' := 32) (a0 := (32, .inl (fun _ => 0))) X rfl wac_int rfl (fun _ => rfl) (by decide) (by decide) (by decide) (by decide) (by decide) dX3_init_55 (fun qi1 => ?_)
  refine n_ws (ws' := [(h0, .inr (2, [.int num, .int 0, .int 0, .int 0, .int 0, .int 0, .int 0, .int 0, .ref qi0, .null, .int 0, .int 0, .int 0, .int 0])), (qi0, .inl (cA 0, 16, .inl (fun _ => 0))), (qi1, .inl (cA 0, 32, .inl (fun _ => 0)))]) rfl ?_
  refine n_putF (ci := 2) (k := 9) (C := RX3) (T := TX3) (N := 14) (ty := (.array .int)) (v := .ref qi1) (ws' := [(h0, .inr (2, [.int num, .int 0, .int 0, .int 0, .int 0, .int 0, .int 0, .int 0, .ref qi0, .ref qi1, .int 0, .int 0, .int 0, .int 0])), (qi0, .inl (cA 0, 16, .inl (fun _ => 0))), (qi1, .inl (cA 0, 32, .inl (fun _ => 0)))]) X hin2 0 rfl rfl in_PT (by decide) tyX3 tyX3_ok nX3 wfc_PT_41 rfl rfl rfl (by decide +kernel) rfl rfl (Nat.le_of_ble_eq_true rfl) dX3_init_57 rfl ?_
  refine n_aload_n X 0 dX3_init_60 rfl rfl ?_
  refine n_iconst (v := 0) X dX3_init_61 (by decide) ?_
  refine n_put (ci := 2) (k := 10) (C := RX3) (T := TX3) (N := 14) (ty := .int) (v := .int 0) (ws' := [(h0, .inr (2, [.int num, .int 0, .int 0, .int 0, .int 0, .int 0, .int 0, .int 0, .ref qi0, .ref qi1, .int 0, .int 0, .int 0, .int 0])), (qi0, .inl (cA 0, 16, .inl (fun _ => 0))), (qi1, .inl (cA 0, 32, .inl (fun _ => 0)))]) X 0 rfl rfl in_PT (by decide) tyX3 tyX3_ok nX3 wfc_PT_44 rfl rfl (by decide +kernel) rfl rfl (Nat.le_of_ble_eq_true rfl) dX3_init_62 rfl ?_
  refine n_aload_n X 0 dX3_init_65 rfl rfl ?_
  refine n_iconst (v := 0) X dX3_init_66 (by decide) ?_
  refine n_put (ci := 2) (k := 11) (C := RX3) (T := TX3) (N := 14) (ty := .int) (v := .int 0) (ws' := [(h0, .inr (2, [.int num, .int 0, .int 0, .int 0, .int 0, .int 0, .int 0, .int 0, .ref qi0, .ref qi1, .int 0, .int 0, .int 0, .int 0])), (qi0, .inl (cA 0, 16, .inl (fun _ => 0))), (qi1, .inl (cA 0, 32, .inl (fun _ => 0)))]) X 0 rfl rfl in_PT (by decide) tyX3 tyX3_ok nX3 wfc_PT_47 rfl rfl (by decide +kernel) rfl rfl (Nat.le_of_ble_eq_true rfl) dX3_init_67 rfl ?_
  refine n_aload_n X 0 dX3_init_70 rfl rfl ?_
  refine n_iconst (v := 0) X dX3_init_71 (by decide) ?_
  refine n_put (ci := 2) (k := 12) (C := RX3) (T := TX3) (N := 14) (ty := .int) (v := .int 0) (ws' := [(h0, .inr (2, [.int num, .int 0, .int 0, .int 0, .int 0, .int 0, .int 0, .int 0, .ref qi0, .ref qi1, .int 0, .int 0, .int 0, .int 0])), (qi0, .inl (cA 0, 16, .inl (fun _ => 0))), (qi1, .inl (cA 0, 32, .inl (fun _ => 0)))]) X 0 rfl rfl in_PT (by decide) tyX3 tyX3_ok nX3 wfc_PT_50 rfl rfl (by decide +kernel) rfl rfl (Nat.le_of_ble_eq_true rfl) dX3_init_72 rfl ?_
  refine n_aload_n X 0 dX3_init_75 rfl rfl ?_
  refine n_iconst (v := 0) X dX3_init_76 (by decide) ?_
  refine n_put (ci := 2) (k := 13) (C := RX3) (T := TX3) (N := 14) (ty := .int) (v := .int 0) (ws' := [(h0, .inr (2, [.int num, .int 0, .int 0, .int 0, .int 0, .int 0, .int 0, .int 0, .ref qi0, .ref qi1, .int 0, .int 0, .int 0, .int 0])), (qi0, .inl (cA 0, 16, .inl (fun _ => 0))), (qi1, .inl (cA 0, 32, .inl (fun _ => 0)))]) X 0 rfl rfl in_PT (by decide) tyX3 tyX3_ok nX3 wfc_PT_53 rfl rfl (by decide +kernel) rfl rfl (Nat.le_of_ble_eq_true rfl) dX3_init_77 rfl ?_
  exact hend 80 _ _ _ _ ⟨qi0, qi1, rfl⟩ (by decide) (by decide) dX3_init_80
