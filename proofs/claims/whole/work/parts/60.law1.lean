/-! THE LAW: its words, its cases, its loop -/
theorem wq_60 : Cond.methodLink RL 60 yL_cell ∈ gw := gw_of (by decide +kernel) rfl
theorem wq_72 : Cond.methodLink RL 72 yL_region ∈ gw := gw_of (by decide +kernel) rfl
theorem wq_75 : Cond.methodLink RL 75 yX8_region ∈ gw := gw_of (by decide +kernel) rfl
theorem wq_76 : Cond.methodLink RL 76 yX8_thrown ∈ gw := gw_of (by decide +kernel) rfl
theorem wq_79 : Cond.methodLink RL 79 yL_load ∈ gw := gw_of (by decide +kernel) rfl
theorem wq_82 : Cond.methodLink RL 82 yX8_load ∈ gw := gw_of (by decide +kernel) rfl
theorem wq_83 : Cond.methodLink RL 83 yL_policy ∈ gw := gw_of (by decide +kernel) rfl
theorem wq_85 : Cond.methodLink RL 85 yX8_policy ∈ gw := gw_of (by decide +kernel) rfl
theorem wq_86 : Cond.methodLink RL 86 yL_window ∈ gw := gw_of (by decide +kernel) rfl
theorem wq_89 : Cond.methodLink RL 89 yX8_window ∈ gw := gw_of (by decide +kernel) rfl
theorem wq_90 : Cond.methodLink RL 90 yL_channel ∈ gw := gw_of (by decide +kernel) rfl
theorem wq_93 : Cond.methodLink RL 93 yX8_channel ∈ gw := gw_of (by decide +kernel) rfl
theorem wq_94 : Cond.methodLink RL 94 yL_boot ∈ gw := gw_of (by decide +kernel) rfl
theorem wq_97 : Cond.methodLink RL 97 yX8_boot ∈ gw := gw_of (by decide +kernel) rfl
theorem wq_98 : Cond.methodLink RL 98 yL_reset ∈ gw := gw_of (by decide +kernel) rfl
theorem wq_101 : Cond.methodLink RL 101 yX8_reset ∈ gw := gw_of (by decide +kernel) rfl
theorem wq_102 : Cond.methodLink RL 102 yL_run ∈ gw := gw_of (by decide +kernel) rfl
theorem wq_105 : Cond.methodLink RL 105 yX8_run ∈ gw := gw_of (by decide +kernel) rfl
theorem wq_106 : Cond.methodLink RL 106 yL_quote ∈ gw := gw_of (by decide +kernel) rfl
theorem wq_108 : Cond.methodLink RL 108 yX8_quote ∈ gw := gw_of (by decide +kernel) rfl
theorem wq_109 : Cond.methodLink RL 109 yL_register ∈ gw := gw_of (by decide +kernel) rfl
theorem wq_111 : Cond.methodLink RL 111 yX8_register ∈ gw := gw_of (by decide +kernel) rfl
theorem wq_112 : Cond.methodLink RL 112 yL_memory ∈ gw := gw_of (by decide +kernel) rfl
theorem wq_114 : Cond.methodLink RL 114 yX8_memory ∈ gw := gw_of (by decide +kernel) rfl
theorem wq_115 : Cond.methodLink RL 115 yL_told ∈ gw := gw_of (by decide +kernel) rfl
theorem wq_117 : Cond.methodLink RL 117 yX8_told ∈ gw := gw_of (by decide +kernel) rfl
theorem wq_118 : Cond.methodLink RL 118 yL_object ∈ gw := gw_of (by decide +kernel) rfl
theorem wq_120 : Cond.methodLink RL 120 yX8_object ∈ gw := gw_of (by decide +kernel) rfl
theorem wq_121 : Cond.methodLink RL 121 yX7_count ∈ gw := gw_of (by decide +kernel) rfl
theorem wq_124 : Cond.methodLink RL 124 yX8_count ∈ gw := gw_of (by decide +kernel) rfl
theorem wsq_region : Cond.static yL_region ∈ gw := gw_of (by decide +kernel) rfl
theorem wsq_load : Cond.static yL_load ∈ gw := gw_of (by decide +kernel) rfl
theorem wsq_policy : Cond.static yL_policy ∈ gw := gw_of (by decide +kernel) rfl
theorem wsq_window : Cond.static yL_window ∈ gw := gw_of (by decide +kernel) rfl
theorem wsq_channel : Cond.static yL_channel ∈ gw := gw_of (by decide +kernel) rfl
theorem wsq_boot : Cond.static yL_boot ∈ gw := gw_of (by decide +kernel) rfl
theorem wsq_reset : Cond.static yL_reset ∈ gw := gw_of (by decide +kernel) rfl
theorem wsq_run : Cond.static yL_run ∈ gw := gw_of (by decide +kernel) rfl
theorem wsq_quote : Cond.static yL_quote ∈ gw := gw_of (by decide +kernel) rfl
theorem wsq_register : Cond.static yL_register ∈ gw := gw_of (by decide +kernel) rfl
theorem wsq_memory : Cond.static yL_memory ∈ gw := gw_of (by decide +kernel) rfl
theorem wsq_told : Cond.static yL_told ∈ gw := gw_of (by decide +kernel) rfl
theorem wsq_object : Cond.static yL_object ∈ gw := gw_of (by decide +kernel) rfl
theorem mfq_MO_region : MF yX8_region cX8_region 5 none 3 := ⟨gw_of (by decide +kernel) rfl, gw_of (by decide +kernel) rfl, by decide +kernel, by decide +kernel, by decide +kernel⟩
theorem wiq_MO_region : Cond.instanceMethod yX8_region ∈ gw := gw_of (by decide +kernel) rfl
theorem wlq_MO_region : Cond.selects yX8_region.cls yX8_region yX8_region ∈ gw := gw_of (by decide +kernel) rfl
theorem mfq_MO_load : MF yX8_load cX8_load 3 none 2 := ⟨gw_of (by decide +kernel) rfl, gw_of (by decide +kernel) rfl, by decide +kernel, by decide +kernel, by decide +kernel⟩
theorem wiq_MO_load : Cond.instanceMethod yX8_load ∈ gw := gw_of (by decide +kernel) rfl
theorem wlq_MO_load : Cond.selects yX8_load.cls yX8_load yX8_load ∈ gw := gw_of (by decide +kernel) rfl
theorem mfq_MO_policy : MF yX8_policy cX8_policy 3 none 2 := ⟨gw_of (by decide +kernel) rfl, gw_of (by decide +kernel) rfl, by decide +kernel, by decide +kernel, by decide +kernel⟩
theorem wiq_MO_policy : Cond.instanceMethod yX8_policy ∈ gw := gw_of (by decide +kernel) rfl
theorem wlq_MO_policy : Cond.selects yX8_policy.cls yX8_policy yX8_policy ∈ gw := gw_of (by decide +kernel) rfl
theorem mfq_MO_window : MF yX8_window cX8_window 3 (some .int) 2 := ⟨gw_of (by decide +kernel) rfl, gw_of (by decide +kernel) rfl, by decide +kernel, by decide +kernel, by decide +kernel⟩
theorem wiq_MO_window : Cond.instanceMethod yX8_window ∈ gw := gw_of (by decide +kernel) rfl
theorem wlq_MO_window : Cond.selects yX8_window.cls yX8_window yX8_window ∈ gw := gw_of (by decide +kernel) rfl
theorem mfq_MO_channel : MF yX8_channel cX8_channel 5 none 4 := ⟨gw_of (by decide +kernel) rfl, gw_of (by decide +kernel) rfl, by decide +kernel, by decide +kernel, by decide +kernel⟩
theorem wiq_MO_channel : Cond.instanceMethod yX8_channel ∈ gw := gw_of (by decide +kernel) rfl
theorem wlq_MO_channel : Cond.selects yX8_channel.cls yX8_channel yX8_channel ∈ gw := gw_of (by decide +kernel) rfl
theorem mfq_MO_boot : MF yX8_boot cX8_boot 4 (some .int) 0 := ⟨gw_of (by decide +kernel) rfl, gw_of (by decide +kernel) rfl, by decide +kernel, by decide +kernel, by decide +kernel⟩
theorem wiq_MO_boot : Cond.instanceMethod yX8_boot ∈ gw := gw_of (by decide +kernel) rfl
theorem wlq_MO_boot : Cond.selects yX8_boot.cls yX8_boot yX8_boot ∈ gw := gw_of (by decide +kernel) rfl
theorem mfq_MO_reset : MF yX8_reset cX8_reset 1 none 0 := ⟨gw_of (by decide +kernel) rfl, gw_of (by decide +kernel) rfl, by decide +kernel, by decide +kernel, by decide +kernel⟩
theorem wiq_MO_reset : Cond.instanceMethod yX8_reset ∈ gw := gw_of (by decide +kernel) rfl
theorem wlq_MO_reset : Cond.selects yX8_reset.cls yX8_reset yX8_reset ∈ gw := gw_of (by decide +kernel) rfl
theorem mfq_MO_run : MF yX8_run cX8_run 5 (some .int) 1 := ⟨gw_of (by decide +kernel) rfl, gw_of (by decide +kernel) rfl, by decide +kernel, by decide +kernel, by decide +kernel⟩
theorem wiq_MO_run : Cond.instanceMethod yX8_run ∈ gw := gw_of (by decide +kernel) rfl
theorem wlq_MO_run : Cond.selects yX8_run.cls yX8_run yX8_run ∈ gw := gw_of (by decide +kernel) rfl
theorem mfq_MO_quote : MF yX8_quote cX8_quote 2 (some .int) 1 := ⟨gw_of (by decide +kernel) rfl, gw_of (by decide +kernel) rfl, by decide +kernel, by decide +kernel, by decide +kernel⟩
theorem wiq_MO_quote : Cond.instanceMethod yX8_quote ∈ gw := gw_of (by decide +kernel) rfl
theorem wlq_MO_quote : Cond.selects yX8_quote.cls yX8_quote yX8_quote ∈ gw := gw_of (by decide +kernel) rfl
theorem mfq_MO_register : MF yX8_register cX8_register 3 (some .int) 2 := ⟨gw_of (by decide +kernel) rfl, gw_of (by decide +kernel) rfl, by decide +kernel, by decide +kernel, by decide +kernel⟩
theorem wiq_MO_register : Cond.instanceMethod yX8_register ∈ gw := gw_of (by decide +kernel) rfl
theorem wlq_MO_register : Cond.selects yX8_register.cls yX8_register yX8_register ∈ gw := gw_of (by decide +kernel) rfl
theorem mfq_MO_memory : MF yX8_memory cX8_memory 2 (some .int) 1 := ⟨gw_of (by decide +kernel) rfl, gw_of (by decide +kernel) rfl, by decide +kernel, by decide +kernel, by decide +kernel⟩
theorem wiq_MO_memory : Cond.instanceMethod yX8_memory ∈ gw := gw_of (by decide +kernel) rfl
theorem wlq_MO_memory : Cond.selects yX8_memory.cls yX8_memory yX8_memory ∈ gw := gw_of (by decide +kernel) rfl
theorem mfq_MO_told : MF yX8_told cX8_told 3 (some .int) 2 := ⟨gw_of (by decide +kernel) rfl, gw_of (by decide +kernel) rfl, by decide +kernel, by decide +kernel, by decide +kernel⟩
theorem wiq_MO_told : Cond.instanceMethod yX8_told ∈ gw := gw_of (by decide +kernel) rfl
theorem wlq_MO_told : Cond.selects yX8_told.cls yX8_told yX8_told ∈ gw := gw_of (by decide +kernel) rfl
theorem mfq_MO_object : MF yX8_object cX8_object 3 (some .int) 2 := ⟨gw_of (by decide +kernel) rfl, gw_of (by decide +kernel) rfl, by decide +kernel, by decide +kernel, by decide +kernel⟩
theorem wiq_MO_object : Cond.instanceMethod yX8_object ∈ gw := gw_of (by decide +kernel) rfl
theorem wlq_MO_object : Cond.selects yX8_object.cls yX8_object yX8_object ∈ gw := gw_of (by decide +kernel) rfl
theorem mfq_MO_count : MF yX8_count cX8_count 2 (some .int) 1 := ⟨gw_of (by decide +kernel) rfl, gw_of (by decide +kernel) rfl, by decide +kernel, by decide +kernel, by decide +kernel⟩
theorem wiq_MO_count : Cond.instanceMethod yX8_count ∈ gw := gw_of (by decide +kernel) rfl
theorem wlq_MO_count : Cond.selects yX8_count.cls yX8_count yX8_count ∈ gw := gw_of (by decide +kernel) rfl
theorem mfq_MO_thrown : MF yX8_thrown cX8_thrown 1 (some .int) 0 := ⟨gw_of (by decide +kernel) rfl, gw_of (by decide +kernel) rfl, by decide +kernel, by decide +kernel, by decide +kernel⟩
theorem wiq_MO_thrown : Cond.instanceMethod yX8_thrown ∈ gw := gw_of (by decide +kernel) rfl
theorem wlq_MO_thrown : Cond.selects yX8_thrown.cls yX8_thrown yX8_thrown ∈ gw := gw_of (by decide +kernel) rfl
theorem mfq_SM_count : MF yX7_count cX7_count 2 (some .int) 1 := ⟨gw_of (by decide +kernel) rfl, gw_of (by decide +kernel) rfl, by decide +kernel, by decide +kernel, by decide +kernel⟩
theorem wiq_SM_count : Cond.instanceMethod yX7_count ∈ gw := gw_of (by decide +kernel) rfl
theorem wlq_SM_count : Cond.selects yX7_count.cls yX7_count yX7_count ∈ gw := gw_of (by decide +kernel) rfl
section LAW
variable {p : Program} {l : Launch} {e : Env} {s : State} {m : MethodId} {args : Array Value} {below : List Frame} {meth : Method} {c : Code} {D : va_G} {cA : Nat → ClassId} {A : Nat → Prop} {rh : Nat → Nat} {cells slots : Nat} {Q : State → Prop} {σ : St} {b L : Nat} {xs : Nat → Int32}
theorem v_sld {R : Room} {cc : ByteArray} {nL n : Nat} {own : String} {tys : List (ClassId × FieldType)} {rc : Nat → (Nat → Int32) → va_E} {pc : Nat} {lv : List (Nat × Value)} {st : List Value} (X : Cx p s m args meth c D tys A cc nL own) (hX : va_X b L xs s s.heap) (hbl : b < s.heap.size) (hbA : ¬ A b) {j : Int32} (hin : vp_in j L) (d : decode cc pc = .ok (.iaload, 1)) (kk : Vz p l e R s m args below meth c D A nL rh rc n cells slots Q (pc + 1) lv (.int (xs j.toNatClampNeg) :: st) σ) : Vz p l e R s m args below meth c D A nL rh rc n cells slots Q pc lv (.int j :: .ref b :: st) σ :=
  fun H locs ls hP hD hS hl => va_sld X.1 X.2.1 hX hbl hbA hS hin d (kk H locs ls hP hD hS hl)
theorem v_slen {R : Room} {cc : ByteArray} {nL n : Nat} {own : String} {tys : List (ClassId × FieldType)} {rc : Nat → (Nat → Int32) → va_E} {pc : Nat} {lv : List (Nat × Value)} {st : List Value} (X : Cx p s m args meth c D tys A cc nL own) (hX : va_X b L xs s s.heap) (hbl : b < s.heap.size) (hbA : ¬ A b) (d : decode cc pc = .ok (.arraylength, 1)) (kk : Vz p l e R s m args below meth c D A nL rh rc n cells slots Q (pc + 1) lv (.int (Int32.ofNat L) :: st) σ) : Vz p l e R s m args below meth c D A nL rh rc n cells slots Q pc lv (.ref b :: st) σ :=
  fun H locs ls hP hD hS hl => va_slen X.1 X.2.1 hX hbl hbA hS d (kk H locs ls hP hD hS hl)
theorem v_lcmpE {R : Room} {cc : ByteArray} {nL n : Nat} {own : String} {tys : List (ClassId × FieldType)} {rc : Nat → (Nat → Int32) → va_E} {pc : Nat} {lv : List (Nat × Value)} {st : List Value} (X : Cx p s m args meth c D tys A cc nL own) {x y : Int64} (hxy : x = y) (d : decode cc pc = .ok (.lcmp, 1)) (kk : Vz p l e R s m args below meth c D A nL rh rc n cells slots Q (pc + 1) lv (.int 0 :: st) σ) : Vz p l e R s m args below meth c D A nL rh rc n cells slots Q pc lv (.long y :: .long x :: st) σ := by
  intro H locs ls hP hD hS hl T hT Xs
  obtain ⟨t, a9, b9⟩ := kk H locs ls hP hD hS hl T hT Xs
  have hexec := X.1
  have hb := X.2.1
  subst hxy
  refine ⟨t, ?_, b9⟩
  have hlt : ¬ x < x := Int64.lt_irrefl
  jvm_step Xs.here [Xs.here.top, hexec, hb, d, hlt]
  exact a9
set_option maxHeartbeats 1000000 in
theorem law_region (X : Cx p s m args meth c D (tyL cA) A cL_law 7 RL) (hlt : l.stackTraces = false) (hX : va_X b L xs s s.heap) (hbl : b < s.heap.size) (hbA : ¬ A b) {iv : Int32} (h1 : vp_in (iv + 1) L) (h2 : vp_in (iv + 2) L) (h3 : vp_in (iv + 3) L) (h4 : vp_in (iv + 4) L) (hR : Rt σ σ σ σ) (hf : cells + 3 ≤ room_1.cells ∧ slots + 18 ≤ room_1.slots) (kk : ∀ σ9 : St, Rt σ9 σ9 σ9 σ9 → Vz p l e room_1 s m args below meth c D A 7 rh (rcW rh cA) NW (cells + 3) (slots + 18) Q 881 [(0, .ref b), (1, .ref (rh iSM)), (2, .ref (rh iMO)), (3, .ref (rh iOUT)), (4, .int iv)] [] σ9) : Vz p l e room_1 s m args below meth c D A 7 rh (rcW rh cA) NW cells slots Q 120 [(0, .ref b), (1, .ref (rh iSM)), (2, .ref (rh iMO)), (3, .ref (rh iOUT)), (4, .int iv)] [] σ := by
  have hC := c_LA_region (l := l) (D := D) (rh := rh) (cA := cA) hlt (xs (iv + 1).toNatClampNeg) (xs (iv + 2).toNatClampNeg) (xs (iv + 3).toNatClampNeg) σ hR.1.ic
  obtain ⟨him, g1, g2, g3, g4⟩ := glue (S1 := (f_SM_region (xs (iv + 1).toNatClampNeg) (xs (iv + 2).toNatClampNeg) (xs (iv + 3).toNatClampNeg) σ).2.2) (Fr := fun b => f_MO_region (xs (iv + 1).toNatClampNeg) (xs (iv + 2).toNatClampNeg) (xs (iv + 3).toNatClampNeg) b) (vr := fun b => (f_SM_region (xs (iv + 1).toNatClampNeg) (xs (iv + 2).toNatClampNeg) (xs (iv + 3).toNatClampNeg) σ).2.1) hR (fun a0 b0 b h => S_region h (xs (iv + 1).toNatClampNeg) (xs (iv + 2).toNatClampNeg) (xs (iv + 3).toNatClampNeg)) (idr _)
  have hM := c_MO_region (l := l) (D := D) (rh := rh) (cA := cA) (xs (iv + 1).toNatClampNeg) (xs (iv + 2).toNatClampNeg) (xs (iv + 3).toNatClampNeg) ((f_SM_region (xs (iv + 1).toNatClampNeg) (xs (iv + 2).toNatClampNeg) (xs (iv + 3).toNatClampNeg) σ).2.2) him
  generalize f_SM_region (xs (iv + 1).toNatClampNeg) (xs (iv + 2).toNatClampNeg) (xs (iv + 3).toNatClampNeg) σ = E at hC him hM g1 g2 g3 g4
  generalize f_MO_region (xs (iv + 1).toNatClampNeg) (xs (iv + 2).toNatClampNeg) (xs (iv + 3).toNatClampNeg) (E.2.2) = F at hM g1 g2 g3 g4
  refine v_aload_n X 1 dL_law_120 rfl rfl ?_
  refine v_aload_n X 0 dL_law_121 rfl rfl ?_
  refine v_iload X 4 dL_law_122 rfl ?_
  refine v_iconst (v := 1) X dL_law_124 (by decide) ?_
  refine v_iadd X dL_law_125 ?_
  refine v_sld X hX hbl hbA h1 dL_law_126 ?_
  refine v_aload_n X 0 dL_law_127 rfl rfl ?_
  refine v_iload X 4 dL_law_128 rfl ?_
  refine v_iconst (v := 2) X dL_law_130 (by decide) ?_
  refine v_iadd X dL_law_131 ?_
  refine v_sld X hX hbl hbA h2 dL_law_132 ?_
  refine v_aload_n X 0 dL_law_133 rfl rfl ?_
  refine v_iload X 4 dL_law_134 rfl ?_
  refine v_iconst (v := 3) X dL_law_136 (by decide) ?_
  refine v_iadd X dL_law_137 ?_
  refine v_sld X hX hbl hbA h3 dL_law_138 ?_
  refine v_callS_CW (rest := []) X [.ref (rh iSM), .int (xs (iv + 1).toNatClampNeg), .int (xs (iv + 2).toNatClampNeg), .int (xs (iv + 3).toNatClampNeg)] hC mw_LA_region wsq_region wq_72 rfl ⟨by decide, by decide⟩ (Nat.le_of_ble_eq_true rfl) hf dL_law_139 ?_
  refine v_istore (lv' := [(5, .int E.1), (0, .ref b), (1, .ref (rh iSM)), (2, .ref (rh iMO)), (3, .ref (rh iOUT)), (4, .int iv)]) X dL_law_142 (by decide) rfl ?_
  refine v_aload_n X 3 dL_law_144 rfl rfl ?_
  refine v_aload_n X 1 dL_law_145 rfl rfl ?_
  refine v_iload X 5 dL_law_146 rfl ?_
  refine v_iconst (v := 1) X dL_law_148 (by decide) ?_
  refine v_iadd X dL_law_149 ?_
  refine v_sld X hX hbl hbA h1 dL_law_150 ?_
  refine v_aload_n X 1 dL_law_151 rfl rfl ?_
  refine v_iload X 5 dL_law_152 rfl ?_
  refine v_iconst (v := 2) X dL_law_154 (by decide) ?_
  refine v_iadd X dL_law_155 ?_
  refine v_sld X hX hbl hbA h2 dL_law_156 ?_
  refine v_aload_n X 1 dL_law_157 rfl rfl ?_
  refine v_iload X 5 dL_law_158 rfl ?_
  refine v_iconst (v := 3) X dL_law_160 (by decide) ?_
  refine v_iadd X dL_law_161 ?_
  refine v_sld X hX hbl hbA h3 dL_law_162 ?_
  refine v_callV_CV (rest := []) X [.int (xs (iv + 1).toNatClampNeg), .int (xs (iv + 2).toNatClampNeg), .int (xs (iv + 3).toNatClampNeg)] hM mfq_MO_region wiq_MO_region wlq_MO_region lt_MO sh_MO rfl wq_75 rfl ⟨by decide, by decide⟩ (Nat.le_of_ble_eq_true rfl) hf dL_law_163 ?_
  refine v_aload_n X 3 dL_law_166 rfl rfl ?_
  refine v_callV_CI (rest := []) X [] (c_MO_thrown F) mfq_MO_thrown wiq_MO_thrown wlq_MO_thrown lt_MO sh_MO rfl wq_76 rfl ⟨by decide, by decide⟩ (Nat.le_of_ble_eq_true rfl) hf dL_law_167 ?_
  refine v_iload X 0 dL_law_170 rfl ?_
  refine v_icmp_eq X 177 dL_law_172 (by decide) (fun _ => ?_) (fun h9 => absurd g1 h9)
  refine v_goto (tgt := 881) X dL_law_177 (by decide) ?_
  exact v_lv (lv' := [(0, .ref b), (1, .ref (rh iSM)), (2, .ref (rh iMO)), (3, .ref (rh iOUT)), (4, .int iv)]) [1, 2, 3, 4, 5] rfl (kk F g3)
set_option maxHeartbeats 1000000 in
theorem law_load (X : Cx p s m args meth c D (tyL cA) A cL_law 7 RL) (hlt : l.stackTraces = false) (hX : va_X b L xs s s.heap) (hbl : b < s.heap.size) (hbA : ¬ A b) {iv : Int32} (h1 : vp_in (iv + 1) L) (h2 : vp_in (iv + 2) L) (h3 : vp_in (iv + 3) L) (h4 : vp_in (iv + 4) L) (hR : Rt σ σ σ σ) (hf : cells + 3 ≤ room_1.cells ∧ slots + 18 ≤ room_1.slots) (kk : ∀ σ9 : St, Rt σ9 σ9 σ9 σ9 → Vz p l e room_1 s m args below meth c D A 7 rh (rcW rh cA) NW (cells + 3) (slots + 18) Q 881 [(0, .ref b), (1, .ref (rh iSM)), (2, .ref (rh iMO)), (3, .ref (rh iOUT)), (4, .int iv)] [] σ9) : Vz p l e room_1 s m args below meth c D A 7 rh (rcW rh cA) NW cells slots Q 180 [(0, .ref b), (1, .ref (rh iSM)), (2, .ref (rh iMO)), (3, .ref (rh iOUT)), (4, .int iv)] [] σ := by
  have hC := c_LA_load (l := l) (D := D) (rh := rh) (cA := cA) hlt (xs (iv + 1).toNatClampNeg) (xs (iv + 2).toNatClampNeg) σ hR.1.ic
  obtain ⟨him, g1, g2, g3, g4⟩ := glue (S1 := (f_SM_load (xs (iv + 1).toNatClampNeg) (xs (iv + 2).toNatClampNeg) σ).2.2) (Fr := fun b => f_MO_load (xs (iv + 1).toNatClampNeg) (xs (iv + 2).toNatClampNeg) b) (vr := fun b => (f_SM_load (xs (iv + 1).toNatClampNeg) (xs (iv + 2).toNatClampNeg) σ).2.1) hR (fun a0 b0 b h => S_load2 h (xs (iv + 1).toNatClampNeg) (xs (iv + 2).toNatClampNeg) 0) (idr _)
  have hM := c_MO_load (l := l) (D := D) (rh := rh) (cA := cA) (xs (iv + 1).toNatClampNeg) (xs (iv + 2).toNatClampNeg) ((f_SM_load (xs (iv + 1).toNatClampNeg) (xs (iv + 2).toNatClampNeg) σ).2.2) him
  generalize f_SM_load (xs (iv + 1).toNatClampNeg) (xs (iv + 2).toNatClampNeg) σ = E at hC him hM g1 g2 g3 g4
  generalize f_MO_load (xs (iv + 1).toNatClampNeg) (xs (iv + 2).toNatClampNeg) (E.2.2) = F at hM g1 g2 g3 g4
  refine v_aload_n X 1 dL_law_180 rfl rfl ?_
  refine v_aload_n X 0 dL_law_181 rfl rfl ?_
  refine v_iload X 4 dL_law_182 rfl ?_
  refine v_iconst (v := 1) X dL_law_184 (by decide) ?_
  refine v_iadd X dL_law_185 ?_
  refine v_sld X hX hbl hbA h1 dL_law_186 ?_
  refine v_aload_n X 0 dL_law_187 rfl rfl ?_
  refine v_iload X 4 dL_law_188 rfl ?_
  refine v_iconst (v := 2) X dL_law_190 (by decide) ?_
  refine v_iadd X dL_law_191 ?_
  refine v_sld X hX hbl hbA h2 dL_law_192 ?_
  refine v_callS_CW (rest := []) X [.ref (rh iSM), .int (xs (iv + 1).toNatClampNeg), .int (xs (iv + 2).toNatClampNeg)] hC mw_LA_load wsq_load wq_79 rfl ⟨by decide, by decide⟩ (Nat.le_of_ble_eq_true rfl) hf dL_law_193 ?_
  refine v_istore (lv' := [(5, .int E.1), (0, .ref b), (1, .ref (rh iSM)), (2, .ref (rh iMO)), (3, .ref (rh iOUT)), (4, .int iv)]) X dL_law_196 (by decide) rfl ?_
  refine v_aload_n X 3 dL_law_198 rfl rfl ?_
  refine v_aload_n X 1 dL_law_199 rfl rfl ?_
  refine v_iload X 5 dL_law_200 rfl ?_
  refine v_iconst (v := 1) X dL_law_202 (by decide) ?_
  refine v_iadd X dL_law_203 ?_
  refine v_sld X hX hbl hbA h1 dL_law_204 ?_
  refine v_aload_n X 1 dL_law_205 rfl rfl ?_
  refine v_iload X 5 dL_law_206 rfl ?_
  refine v_iconst (v := 2) X dL_law_208 (by decide) ?_
  refine v_iadd X dL_law_209 ?_
  refine v_sld X hX hbl hbA h2 dL_law_210 ?_
  refine v_callV_CV (rest := []) X [.int (xs (iv + 1).toNatClampNeg), .int (xs (iv + 2).toNatClampNeg)] hM mfq_MO_load wiq_MO_load wlq_MO_load lt_MO sh_MO rfl wq_82 rfl ⟨by decide, by decide⟩ (Nat.le_of_ble_eq_true rfl) hf dL_law_211 ?_
  refine v_aload_n X 3 dL_law_214 rfl rfl ?_
  refine v_callV_CI (rest := []) X [] (c_MO_thrown F) mfq_MO_thrown wiq_MO_thrown wlq_MO_thrown lt_MO sh_MO rfl wq_76 rfl ⟨by decide, by decide⟩ (Nat.le_of_ble_eq_true rfl) hf dL_law_215 ?_
  refine v_iload X 0 dL_law_218 rfl ?_
  refine v_icmp_eq X 225 dL_law_220 (by decide) (fun _ => ?_) (fun h9 => absurd g1 h9)
  refine v_goto (tgt := 881) X dL_law_225 (by decide) ?_
  exact v_lv (lv' := [(0, .ref b), (1, .ref (rh iSM)), (2, .ref (rh iMO)), (3, .ref (rh iOUT)), (4, .int iv)]) [1, 2, 3, 4, 5] rfl (kk F g3)
set_option maxHeartbeats 1000000 in
theorem law_policy (X : Cx p s m args meth c D (tyL cA) A cL_law 7 RL) (hlt : l.stackTraces = false) (hX : va_X b L xs s s.heap) (hbl : b < s.heap.size) (hbA : ¬ A b) {iv : Int32} (h1 : vp_in (iv + 1) L) (h2 : vp_in (iv + 2) L) (h3 : vp_in (iv + 3) L) (h4 : vp_in (iv + 4) L) (hR : Rt σ σ σ σ) (hf : cells + 3 ≤ room_1.cells ∧ slots + 18 ≤ room_1.slots) (kk : ∀ σ9 : St, Rt σ9 σ9 σ9 σ9 → Vz p l e room_1 s m args below meth c D A 7 rh (rcW rh cA) NW (cells + 3) (slots + 18) Q 881 [(0, .ref b), (1, .ref (rh iSM)), (2, .ref (rh iMO)), (3, .ref (rh iOUT)), (4, .int iv)] [] σ9) : Vz p l e room_1 s m args below meth c D A 7 rh (rcW rh cA) NW cells slots Q 228 [(0, .ref b), (1, .ref (rh iSM)), (2, .ref (rh iMO)), (3, .ref (rh iOUT)), (4, .int iv)] [] σ := by
  have hC := c_LA_policy (l := l) (D := D) (rh := rh) (cA := cA) hlt (xs (iv + 1).toNatClampNeg) (xs (iv + 2).toNatClampNeg) σ hR.1.ic
  obtain ⟨him, g1, g2, g3, g4⟩ := glue (S1 := (f_SM_policy (xs (iv + 1).toNatClampNeg) (xs (iv + 2).toNatClampNeg) σ).2.2) (Fr := fun b => f_MO_policy (xs (iv + 1).toNatClampNeg) (xs (iv + 2).toNatClampNeg) b) (vr := fun b => (f_SM_policy (xs (iv + 1).toNatClampNeg) (xs (iv + 2).toNatClampNeg) σ).2.1) hR (fun a0 b0 b h => S_policy h (xs (iv + 1).toNatClampNeg) (xs (iv + 2).toNatClampNeg) 0) (idr _)
  have hM := c_MO_policy (l := l) (D := D) (rh := rh) (cA := cA) (xs (iv + 1).toNatClampNeg) (xs (iv + 2).toNatClampNeg) ((f_SM_policy (xs (iv + 1).toNatClampNeg) (xs (iv + 2).toNatClampNeg) σ).2.2) him
  generalize f_SM_policy (xs (iv + 1).toNatClampNeg) (xs (iv + 2).toNatClampNeg) σ = E at hC him hM g1 g2 g3 g4
  generalize f_MO_policy (xs (iv + 1).toNatClampNeg) (xs (iv + 2).toNatClampNeg) (E.2.2) = F at hM g1 g2 g3 g4
  refine v_aload_n X 1 dL_law_228 rfl rfl ?_
  refine v_aload_n X 0 dL_law_229 rfl rfl ?_
  refine v_iload X 4 dL_law_230 rfl ?_
  refine v_iconst (v := 1) X dL_law_232 (by decide) ?_
  refine v_iadd X dL_law_233 ?_
  refine v_sld X hX hbl hbA h1 dL_law_234 ?_
  refine v_aload_n X 0 dL_law_235 rfl rfl ?_
  refine v_iload X 4 dL_law_236 rfl ?_
  refine v_iconst (v := 2) X dL_law_238 (by decide) ?_
  refine v_iadd X dL_law_239 ?_
  refine v_sld X hX hbl hbA h2 dL_law_240 ?_
  refine v_callS_CW (rest := []) X [.ref (rh iSM), .int (xs (iv + 1).toNatClampNeg), .int (xs (iv + 2).toNatClampNeg)] hC mw_LA_policy wsq_policy wq_83 rfl ⟨by decide, by decide⟩ (Nat.le_of_ble_eq_true rfl) hf dL_law_241 ?_
  refine v_istore (lv' := [(5, .int E.1), (0, .ref b), (1, .ref (rh iSM)), (2, .ref (rh iMO)), (3, .ref (rh iOUT)), (4, .int iv)]) X dL_law_244 (by decide) rfl ?_
  refine v_aload_n X 3 dL_law_246 rfl rfl ?_
  refine v_aload_n X 1 dL_law_247 rfl rfl ?_
  refine v_iload X 5 dL_law_248 rfl ?_
  refine v_iconst (v := 1) X dL_law_250 (by decide) ?_
  refine v_iadd X dL_law_251 ?_
  refine v_sld X hX hbl hbA h1 dL_law_252 ?_
  refine v_aload_n X 1 dL_law_253 rfl rfl ?_
  refine v_iload X 5 dL_law_254 rfl ?_
  refine v_iconst (v := 2) X dL_law_256 (by decide) ?_
  refine v_iadd X dL_law_257 ?_
  refine v_sld X hX hbl hbA h2 dL_law_258 ?_
  refine v_callV_CV (rest := []) X [.int (xs (iv + 1).toNatClampNeg), .int (xs (iv + 2).toNatClampNeg)] hM mfq_MO_policy wiq_MO_policy wlq_MO_policy lt_MO sh_MO rfl wq_85 rfl ⟨by decide, by decide⟩ (Nat.le_of_ble_eq_true rfl) hf dL_law_259 ?_
  refine v_aload_n X 3 dL_law_262 rfl rfl ?_
  refine v_callV_CI (rest := []) X [] (c_MO_thrown F) mfq_MO_thrown wiq_MO_thrown wlq_MO_thrown lt_MO sh_MO rfl wq_76 rfl ⟨by decide, by decide⟩ (Nat.le_of_ble_eq_true rfl) hf dL_law_263 ?_
  refine v_iload X 0 dL_law_266 rfl ?_
  refine v_icmp_eq X 273 dL_law_268 (by decide) (fun _ => ?_) (fun h9 => absurd g1 h9)
  refine v_goto (tgt := 881) X dL_law_273 (by decide) ?_
  exact v_lv (lv' := [(0, .ref b), (1, .ref (rh iSM)), (2, .ref (rh iMO)), (3, .ref (rh iOUT)), (4, .int iv)]) [1, 2, 3, 4, 5] rfl (kk F g3)
set_option maxHeartbeats 1000000 in
theorem law_window (X : Cx p s m args meth c D (tyL cA) A cL_law 7 RL) (hlt : l.stackTraces = false) (hX : va_X b L xs s s.heap) (hbl : b < s.heap.size) (hbA : ¬ A b) {iv : Int32} (h1 : vp_in (iv + 1) L) (h2 : vp_in (iv + 2) L) (h3 : vp_in (iv + 3) L) (h4 : vp_in (iv + 4) L) (hR : Rt σ σ σ σ) (hf : cells + 3 ≤ room_1.cells ∧ slots + 18 ≤ room_1.slots) (kk : ∀ σ9 : St, Rt σ9 σ9 σ9 σ9 → Vz p l e room_1 s m args below meth c D A 7 rh (rcW rh cA) NW (cells + 3) (slots + 18) Q 881 [(0, .ref b), (1, .ref (rh iSM)), (2, .ref (rh iMO)), (3, .ref (rh iOUT)), (4, .int iv)] [] σ9) : Vz p l e room_1 s m args below meth c D A 7 rh (rcW rh cA) NW cells slots Q 276 [(0, .ref b), (1, .ref (rh iSM)), (2, .ref (rh iMO)), (3, .ref (rh iOUT)), (4, .int iv)] [] σ := by
  have hC := c_LA_window (l := l) (D := D) (rh := rh) (cA := cA) hlt (xs (iv + 1).toNatClampNeg) (xs (iv + 2).toNatClampNeg) σ hR.1.ic
  obtain ⟨him, g1, g2, g3, g4⟩ := glue (S1 := wo (f_SM_window (xs (iv + 1).toNatClampNeg) (xs (iv + 2).toNatClampNeg) σ)) (Fr := fun b => (f_MO_window (xs (iv + 1).toNatClampNeg) (xs (iv + 2).toNatClampNeg) b).2) (vr := fun b => (f_MO_window (xs (iv + 1).toNatClampNeg) (xs (iv + 2).toNatClampNeg) b).1) hR (fun a0 b0 b h => S_window h (xs (iv + 1).toNatClampNeg) (xs (iv + 2).toNatClampNeg)) (wo_row _)
  have hM := c_MO_window (l := l) (D := D) (rh := rh) (cA := cA) (xs (iv + 1).toNatClampNeg) (xs (iv + 2).toNatClampNeg) (wo (f_SM_window (xs (iv + 1).toNatClampNeg) (xs (iv + 2).toNatClampNeg) σ)) him
  generalize f_SM_window (xs (iv + 1).toNatClampNeg) (xs (iv + 2).toNatClampNeg) σ = E at hC him hM g1 g2 g3 g4
  generalize f_MO_window (xs (iv + 1).toNatClampNeg) (xs (iv + 2).toNatClampNeg) (wo E) = F at hM g1 g2 g3 g4
  refine v_aload_n X 1 dL_law_276 rfl rfl ?_
  refine v_aload_n X 0 dL_law_277 rfl rfl ?_
  refine v_iload X 4 dL_law_278 rfl ?_
  refine v_iconst (v := 1) X dL_law_280 (by decide) ?_
  refine v_iadd X dL_law_281 ?_
  refine v_sld X hX hbl hbA h1 dL_law_282 ?_
  refine v_aload_n X 0 dL_law_283 rfl rfl ?_
  refine v_iload X 4 dL_law_284 rfl ?_
  refine v_iconst (v := 2) X dL_law_286 (by decide) ?_
  refine v_iadd X dL_law_287 ?_
  refine v_sld X hX hbl hbA h2 dL_law_288 ?_
  refine v_aload_n X 3 dL_law_289 rfl rfl ?_
  refine v_callS_CW (rest := []) X [.ref (rh iSM), .int (xs (iv + 1).toNatClampNeg), .int (xs (iv + 2).toNatClampNeg), .ref (rh iOUT)] hC mw_LA_window wsq_window wq_86 rfl ⟨by decide, by decide⟩ (Nat.le_of_ble_eq_true rfl) hf dL_law_290 ?_
  refine v_istore (lv' := [(5, .int E.1), (0, .ref b), (1, .ref (rh iSM)), (2, .ref (rh iMO)), (3, .ref (rh iOUT)), (4, .int iv)]) X dL_law_293 (by decide) rfl ?_
  refine v_aload_n X 3 dL_law_295 rfl rfl ?_
  refine v_aload_n X 1 dL_law_296 rfl rfl ?_
  refine v_iload X 5 dL_law_297 rfl ?_
  refine v_iconst (v := 1) X dL_law_299 (by decide) ?_
  refine v_iadd X dL_law_300 ?_
  refine v_sld X hX hbl hbA h1 dL_law_301 ?_
  refine v_aload_n X 1 dL_law_302 rfl rfl ?_
  refine v_iload X 5 dL_law_303 rfl ?_
  refine v_iconst (v := 2) X dL_law_305 (by decide) ?_
  refine v_iadd X dL_law_306 ?_
  refine v_sld X hX hbl hbA h2 dL_law_307 ?_
  refine v_callV_CI (rest := []) X [.int (xs (iv + 1).toNatClampNeg), .int (xs (iv + 2).toNatClampNeg)] hM mfq_MO_window wiq_MO_window wlq_MO_window lt_MO sh_MO rfl wq_89 rfl ⟨by decide, by decide⟩ (Nat.le_of_ble_eq_true rfl) hf dL_law_308 ?_
  refine v_istore (lv' := [(6, .int F.1), (5, .int E.1), (0, .ref b), (1, .ref (rh iSM)), (2, .ref (rh iMO)), (3, .ref (rh iOUT)), (4, .int iv)]) X dL_law_311 (by decide) rfl ?_
  refine v_aload_n X 4 dL_law_313 rfl rfl ?_
  refine v_callV_CI (rest := []) X [] (c_MO_thrown F.2) mfq_MO_thrown wiq_MO_thrown wlq_MO_thrown lt_MO sh_MO rfl wq_76 rfl ⟨by decide, by decide⟩ (Nat.le_of_ble_eq_true rfl) hf dL_law_314 ?_
  refine v_iload X 1 dL_law_317 rfl ?_
  refine v_icmp_eq X 324 dL_law_319 (by decide) (fun _ => ?_) (fun h9 => absurd g1 h9)
  refine v_iload X 1 dL_law_324 rfl ?_
  refine v_if_ne X 341 dL_law_326 (by decide) (fun _ => ?_) (fun h0 => ?_)
  · refine v_goto (tgt := 881) X dL_law_341 (by decide) ?_
    exact v_lv (lv' := [(0, .ref b), (1, .ref (rh iSM)), (2, .ref (rh iMO)), (3, .ref (rh iOUT)), (4, .int iv)]) [2, 3, 4, 5, 6] rfl (kk F.2 g3)
  have h00 : E.1 = 0 := h0
  refine v_aload_n X 5 dL_law_329 rfl rfl ?_
  refine v_iconst (v := 0) X dL_law_330 (by decide) ?_
  refine v_lald (i := iOUT) (t0 := 4) X lt_OUT sh_OUT rfl (vin_mk (by decide) (by decide)) dL_law_331 ?_
  refine v_iload X 0 dL_law_332 rfl ?_
  refine v_i2l X dL_law_334 ?_
  refine v_lcmpE X (by rw [outEq h00 g2 g4]) dL_law_335 ?_
  refine v_if_eq X 341 dL_law_336 (by decide) (fun _ => ?_) (fun h9 => absurd rfl h9)
  refine v_goto (tgt := 881) X dL_law_341 (by decide) ?_
  exact v_lv (lv' := [(0, .ref b), (1, .ref (rh iSM)), (2, .ref (rh iMO)), (3, .ref (rh iOUT)), (4, .int iv)]) [2, 3, 4, 5, 6] rfl (kk F.2 g3)
set_option maxHeartbeats 1000000 in
theorem law_channel (X : Cx p s m args meth c D (tyL cA) A cL_law 7 RL) (hlt : l.stackTraces = false) (hX : va_X b L xs s s.heap) (hbl : b < s.heap.size) (hbA : ¬ A b) {iv : Int32} (h1 : vp_in (iv + 1) L) (h2 : vp_in (iv + 2) L) (h3 : vp_in (iv + 3) L) (h4 : vp_in (iv + 4) L) (hR : Rt σ σ σ σ) (hf : cells + 3 ≤ room_1.cells ∧ slots + 18 ≤ room_1.slots) (kk : ∀ σ9 : St, Rt σ9 σ9 σ9 σ9 → Vz p l e room_1 s m args below meth c D A 7 rh (rcW rh cA) NW (cells + 3) (slots + 18) Q 881 [(0, .ref b), (1, .ref (rh iSM)), (2, .ref (rh iMO)), (3, .ref (rh iOUT)), (4, .int iv)] [] σ9) : Vz p l e room_1 s m args below meth c D A 7 rh (rcW rh cA) NW cells slots Q 344 [(0, .ref b), (1, .ref (rh iSM)), (2, .ref (rh iMO)), (3, .ref (rh iOUT)), (4, .int iv)] [] σ := by
  have hC := c_LA_channel (l := l) (D := D) (rh := rh) (cA := cA) hlt (xs (iv + 1).toNatClampNeg) (xs (iv + 2).toNatClampNeg) (xs (iv + 3).toNatClampNeg) (xs (iv + 4).toNatClampNeg) σ hR.1.ic
  obtain ⟨him, g1, g2, g3, g4⟩ := glue (S1 := (f_SM_channel (xs (iv + 1).toNatClampNeg) (xs (iv + 2).toNatClampNeg) (xs (iv + 3).toNatClampNeg) (xs (iv + 4).toNatClampNeg) σ).2.2) (Fr := fun b => f_MO_channel (xs (iv + 1).toNatClampNeg) (xs (iv + 2).toNatClampNeg) (xs (iv + 3).toNatClampNeg) (xs (iv + 4).toNatClampNeg) b) (vr := fun b => (f_SM_channel (xs (iv + 1).toNatClampNeg) (xs (iv + 2).toNatClampNeg) (xs (iv + 3).toNatClampNeg) (xs (iv + 4).toNatClampNeg) σ).2.1) hR (fun a0 b0 b h => S_channel h (xs (iv + 1).toNatClampNeg) (xs (iv + 2).toNatClampNeg) (xs (iv + 3).toNatClampNeg) (xs (iv + 4).toNatClampNeg) 0) (idr _)
  have hM := c_MO_channel (l := l) (D := D) (rh := rh) (cA := cA) (xs (iv + 1).toNatClampNeg) (xs (iv + 2).toNatClampNeg) (xs (iv + 3).toNatClampNeg) (xs (iv + 4).toNatClampNeg) ((f_SM_channel (xs (iv + 1).toNatClampNeg) (xs (iv + 2).toNatClampNeg) (xs (iv + 3).toNatClampNeg) (xs (iv + 4).toNatClampNeg) σ).2.2) him
  generalize f_SM_channel (xs (iv + 1).toNatClampNeg) (xs (iv + 2).toNatClampNeg) (xs (iv + 3).toNatClampNeg) (xs (iv + 4).toNatClampNeg) σ = E at hC him hM g1 g2 g3 g4
  generalize f_MO_channel (xs (iv + 1).toNatClampNeg) (xs (iv + 2).toNatClampNeg) (xs (iv + 3).toNatClampNeg) (xs (iv + 4).toNatClampNeg) (E.2.2) = F at hM g1 g2 g3 g4
  refine v_aload_n X 1 dL_law_344 rfl rfl ?_
  refine v_aload_n X 0 dL_law_345 rfl rfl ?_
  refine v_iload X 4 dL_law_346 rfl ?_
  refine v_iconst (v := 1) X dL_law_348 (by decide) ?_
  refine v_iadd X dL_law_349 ?_
  refine v_sld X hX hbl hbA h1 dL_law_350 ?_
  refine v_aload_n X 0 dL_law_351 rfl rfl ?_
  refine v_iload X 4 dL_law_352 rfl ?_
  refine v_iconst (v := 2) X dL_law_354 (by decide) ?_
  refine v_iadd X dL_law_355 ?_
  refine v_sld X hX hbl hbA h2 dL_law_356 ?_
  refine v_aload_n X 0 dL_law_357 rfl rfl ?_
  refine v_iload X 4 dL_law_358 rfl ?_
  refine v_iconst (v := 3) X dL_law_360 (by decide) ?_
  refine v_iadd X dL_law_361 ?_
  refine v_sld X hX hbl hbA h3 dL_law_362 ?_
  refine v_aload_n X 0 dL_law_363 rfl rfl ?_
  refine v_iload X 4 dL_law_364 rfl ?_
  refine v_iconst (v := 4) X dL_law_366 (by decide) ?_
  refine v_iadd X dL_law_367 ?_
  refine v_sld X hX hbl hbA h4 dL_law_368 ?_
  refine v_callS_CW (rest := []) X [.ref (rh iSM), .int (xs (iv + 1).toNatClampNeg), .int (xs (iv + 2).toNatClampNeg), .int (xs (iv + 3).toNatClampNeg), .int (xs (iv + 4).toNatClampNeg)] hC mw_LA_channel wsq_channel wq_90 rfl ⟨by decide, by decide⟩ (Nat.le_of_ble_eq_true rfl) hf dL_law_369 ?_
  refine v_istore (lv' := [(5, .int E.1), (0, .ref b), (1, .ref (rh iSM)), (2, .ref (rh iMO)), (3, .ref (rh iOUT)), (4, .int iv)]) X dL_law_372 (by decide) rfl ?_
  refine v_aload_n X 3 dL_law_374 rfl rfl ?_
  refine v_aload_n X 1 dL_law_375 rfl rfl ?_
  refine v_iload X 5 dL_law_376 rfl ?_
  refine v_iconst (v := 1) X dL_law_378 (by decide) ?_
  refine v_iadd X dL_law_379 ?_
  refine v_sld X hX hbl hbA h1 dL_law_380 ?_
  refine v_aload_n X 1 dL_law_381 rfl rfl ?_
  refine v_iload X 5 dL_law_382 rfl ?_
  refine v_iconst (v := 2) X dL_law_384 (by decide) ?_
  refine v_iadd X dL_law_385 ?_
  refine v_sld X hX hbl hbA h2 dL_law_386 ?_
  refine v_aload_n X 1 dL_law_387 rfl rfl ?_
  refine v_iload X 5 dL_law_388 rfl ?_
  refine v_iconst (v := 3) X dL_law_390 (by decide) ?_
  refine v_iadd X dL_law_391 ?_
  refine v_sld X hX hbl hbA h3 dL_law_392 ?_
  refine v_aload_n X 1 dL_law_393 rfl rfl ?_
  refine v_iload X 5 dL_law_394 rfl ?_
  refine v_iconst (v := 4) X dL_law_396 (by decide) ?_
  refine v_iadd X dL_law_397 ?_
  refine v_sld X hX hbl hbA h4 dL_law_398 ?_
  refine v_callV_CV (rest := []) X [.int (xs (iv + 1).toNatClampNeg), .int (xs (iv + 2).toNatClampNeg), .int (xs (iv + 3).toNatClampNeg), .int (xs (iv + 4).toNatClampNeg)] hM mfq_MO_channel wiq_MO_channel wlq_MO_channel lt_MO sh_MO rfl wq_93 rfl ⟨by decide, by decide⟩ (Nat.le_of_ble_eq_true rfl) hf dL_law_399 ?_
  refine v_aload_n X 3 dL_law_402 rfl rfl ?_
  refine v_callV_CI (rest := []) X [] (c_MO_thrown F) mfq_MO_thrown wiq_MO_thrown wlq_MO_thrown lt_MO sh_MO rfl wq_76 rfl ⟨by decide, by decide⟩ (Nat.le_of_ble_eq_true rfl) hf dL_law_403 ?_
  refine v_iload X 0 dL_law_406 rfl ?_
  refine v_icmp_eq X 413 dL_law_408 (by decide) (fun _ => ?_) (fun h9 => absurd g1 h9)
  refine v_goto (tgt := 881) X dL_law_413 (by decide) ?_
  exact v_lv (lv' := [(0, .ref b), (1, .ref (rh iSM)), (2, .ref (rh iMO)), (3, .ref (rh iOUT)), (4, .int iv)]) [1, 2, 3, 4, 5] rfl (kk F g3)
set_option maxHeartbeats 1000000 in
theorem law_boot (X : Cx p s m args meth c D (tyL cA) A cL_law 7 RL) (hlt : l.stackTraces = false) (hX : va_X b L xs s s.heap) (hbl : b < s.heap.size) (hbA : ¬ A b) {iv : Int32} (h1 : vp_in (iv + 1) L) (h2 : vp_in (iv + 2) L) (h3 : vp_in (iv + 3) L) (h4 : vp_in (iv + 4) L) (hR : Rt σ σ σ σ) (hf : cells + 3 ≤ room_1.cells ∧ slots + 18 ≤ room_1.slots) (kk : ∀ σ9 : St, Rt σ9 σ9 σ9 σ9 → Vz p l e room_1 s m args below meth c D A 7 rh (rcW rh cA) NW (cells + 3) (slots + 18) Q 881 [(0, .ref b), (1, .ref (rh iSM)), (2, .ref (rh iMO)), (3, .ref (rh iOUT)), (4, .int iv)] [] σ9) : Vz p l e room_1 s m args below meth c D A 7 rh (rcW rh cA) NW cells slots Q 416 [(0, .ref b), (1, .ref (rh iSM)), (2, .ref (rh iMO)), (3, .ref (rh iOUT)), (4, .int iv)] [] σ := by
  have hC := c_LA_boot (l := l) (D := D) (rh := rh) (cA := cA) hlt  σ hR.1.ic
  obtain ⟨him, g1, g2, g3, g4⟩ := glue (S1 := wo (f_SM_boot σ)) (Fr := fun b => (f_MO_boot b).2) (vr := fun b => (f_MO_boot b).1) hR (fun a0 b0 b h => S_boot h ) (wo_row _)
  have hM := c_MO_boot (l := l) (D := D) (rh := rh) (cA := cA)  (wo (f_SM_boot σ)) him
  generalize f_SM_boot σ = E at hC him hM g1 g2 g3 g4
  generalize f_MO_boot (wo E) = F at hM g1 g2 g3 g4
  refine v_aload_n X 1 dL_law_416 rfl rfl ?_
  refine v_aload_n X 3 dL_law_417 rfl rfl ?_
  refine v_callS_CW (rest := []) X [.ref (rh iSM), .ref (rh iOUT)] hC mw_LA_boot wsq_boot wq_94 rfl ⟨by decide, by decide⟩ (Nat.le_of_ble_eq_true rfl) hf dL_law_418 ?_
  refine v_istore (lv' := [(5, .int (w01 E.1)), (0, .ref b), (1, .ref (rh iSM)), (2, .ref (rh iMO)), (3, .ref (rh iOUT)), (4, .int iv)]) X dL_law_421 (by decide) rfl ?_
  refine v_aload_n X 3 dL_law_423 rfl rfl ?_
  refine v_callV_CI (rest := []) X [] hM mfq_MO_boot wiq_MO_boot wlq_MO_boot lt_MO sh_MO rfl wq_97 rfl ⟨by decide, by decide⟩ (Nat.le_of_ble_eq_true rfl) hf dL_law_424 ?_
  refine v_istore (lv' := [(6, .int F.1), (5, .int (w01 E.1)), (0, .ref b), (1, .ref (rh iSM)), (2, .ref (rh iMO)), (3, .ref (rh iOUT)), (4, .int iv)]) X dL_law_427 (by decide) rfl ?_
  refine v_aload_n X 4 dL_law_429 rfl rfl ?_
  refine v_callV_CI (rest := []) X [] (c_MO_thrown F.2) mfq_MO_thrown wiq_MO_thrown wlq_MO_thrown lt_MO sh_MO rfl wq_76 rfl ⟨by decide, by decide⟩ (Nat.le_of_ble_eq_true rfl) hf dL_law_430 ?_
  refine v_iload X 1 dL_law_433 rfl ?_
  refine v_icmp_eq X 440 dL_law_435 (by decide) (fun _ => ?_) (fun h9 => absurd g1 h9)
  refine v_iload X 1 dL_law_440 rfl ?_
  refine v_if_ne X 457 dL_law_442 (by decide) (fun _ => ?_) (fun h0 => ?_)
  · refine v_goto (tgt := 881) X dL_law_457 (by decide) ?_
    exact v_lv (lv' := [(0, .ref b), (1, .ref (rh iSM)), (2, .ref (rh iMO)), (3, .ref (rh iOUT)), (4, .int iv)]) [2, 3, 4, 5, 6] rfl (kk F.2 g3)
  have h00 : E.1 = 0 := w01_0 h0
  refine v_aload_n X 5 dL_law_445 rfl rfl ?_
  refine v_iconst (v := 0) X dL_law_446 (by decide) ?_
  refine v_lald (i := iOUT) (t0 := 4) X lt_OUT sh_OUT rfl (vin_mk (by decide) (by decide)) dL_law_447 ?_
  refine v_iload X 0 dL_law_448 rfl ?_
  refine v_i2l X dL_law_450 ?_
  refine v_lcmpE X (by rw [outEq h00 g2 g4]) dL_law_451 ?_
  refine v_if_eq X 457 dL_law_452 (by decide) (fun _ => ?_) (fun h9 => absurd rfl h9)
  refine v_goto (tgt := 881) X dL_law_457 (by decide) ?_
  exact v_lv (lv' := [(0, .ref b), (1, .ref (rh iSM)), (2, .ref (rh iMO)), (3, .ref (rh iOUT)), (4, .int iv)]) [2, 3, 4, 5, 6] rfl (kk F.2 g3)
set_option maxHeartbeats 1000000 in
theorem law_reset (X : Cx p s m args meth c D (tyL cA) A cL_law 7 RL) (hlt : l.stackTraces = false) (hX : va_X b L xs s s.heap) (hbl : b < s.heap.size) (hbA : ¬ A b) {iv : Int32} (h1 : vp_in (iv + 1) L) (h2 : vp_in (iv + 2) L) (h3 : vp_in (iv + 3) L) (h4 : vp_in (iv + 4) L) (hR : Rt σ σ σ σ) (hf : cells + 3 ≤ room_1.cells ∧ slots + 18 ≤ room_1.slots) (kk : ∀ σ9 : St, Rt σ9 σ9 σ9 σ9 → Vz p l e room_1 s m args below meth c D A 7 rh (rcW rh cA) NW (cells + 3) (slots + 18) Q 881 [(0, .ref b), (1, .ref (rh iSM)), (2, .ref (rh iMO)), (3, .ref (rh iOUT)), (4, .int iv)] [] σ9) : Vz p l e room_1 s m args below meth c D A 7 rh (rcW rh cA) NW cells slots Q 460 [(0, .ref b), (1, .ref (rh iSM)), (2, .ref (rh iMO)), (3, .ref (rh iOUT)), (4, .int iv)] [] σ := by
  have hC := c_LA_reset (l := l) (D := D) (rh := rh) (cA := cA) hlt  σ hR.1.ic
  obtain ⟨him, g1, g2, g3, g4⟩ := glue (S1 := (f_SM_reset σ).2.2) (Fr := fun b => f_MO_reset b) (vr := fun b => (f_SM_reset σ).2.1) hR (fun a0 b0 b h => S_reset h ) (idr _)
  have hM := c_MO_reset (l := l) (D := D) (rh := rh) (cA := cA)  ((f_SM_reset σ).2.2)
  generalize f_SM_reset σ = E at hC him hM g1 g2 g3 g4
  generalize f_MO_reset (E.2.2) = F at hM g1 g2 g3 g4
  refine v_aload_n X 1 dL_law_460 rfl rfl ?_
  refine v_callS_CW (rest := []) X [.ref (rh iSM)] hC mw_LA_reset wsq_reset wq_98 rfl ⟨by decide, by decide⟩ (Nat.le_of_ble_eq_true rfl) hf dL_law_461 ?_
  refine v_istore (lv' := [(5, .int (w01 E.1)), (0, .ref b), (1, .ref (rh iSM)), (2, .ref (rh iMO)), (3, .ref (rh iOUT)), (4, .int iv)]) X dL_law_464 (by decide) rfl ?_
  refine v_aload_n X 3 dL_law_466 rfl rfl ?_
  refine v_callV_CV (rest := []) X [] hM mfq_MO_reset wiq_MO_reset wlq_MO_reset lt_MO sh_MO rfl wq_101 rfl ⟨by decide, by decide⟩ (Nat.le_of_ble_eq_true rfl) hf dL_law_467 ?_
  refine v_aload_n X 3 dL_law_470 rfl rfl ?_
  refine v_callV_CI (rest := []) X [] (c_MO_thrown F) mfq_MO_thrown wiq_MO_thrown wlq_MO_thrown lt_MO sh_MO rfl wq_76 rfl ⟨by decide, by decide⟩ (Nat.le_of_ble_eq_true rfl) hf dL_law_471 ?_
  refine v_iload X 0 dL_law_474 rfl ?_
  refine v_icmp_eq X 481 dL_law_476 (by decide) (fun _ => ?_) (fun h9 => absurd g1 h9)
  refine v_goto (tgt := 881) X dL_law_481 (by decide) ?_
  exact v_lv (lv' := [(0, .ref b), (1, .ref (rh iSM)), (2, .ref (rh iMO)), (3, .ref (rh iOUT)), (4, .int iv)]) [1, 2, 3, 4, 5] rfl (kk F g3)
set_option maxHeartbeats 1000000 in
theorem law_run (X : Cx p s m args meth c D (tyL cA) A cL_law 7 RL) (hlt : l.stackTraces = false) (hX : va_X b L xs s s.heap) (hbl : b < s.heap.size) (hbA : ¬ A b) {iv : Int32} (h1 : vp_in (iv + 1) L) (h2 : vp_in (iv + 2) L) (h3 : vp_in (iv + 3) L) (h4 : vp_in (iv + 4) L) (hR : Rt σ σ σ σ) (hf : cells + 3 ≤ room_1.cells ∧ slots + 18 ≤ room_1.slots) (kk : ∀ σ9 : St, Rt σ9 σ9 σ9 σ9 → Vz p l e room_1 s m args below meth c D A 7 rh (rcW rh cA) NW (cells + 3) (slots + 18) Q 881 [(0, .ref b), (1, .ref (rh iSM)), (2, .ref (rh iMO)), (3, .ref (rh iOUT)), (4, .int iv)] [] σ9) : Vz p l e room_1 s m args below meth c D A 7 rh (rcW rh cA) NW cells slots Q 484 [(0, .ref b), (1, .ref (rh iSM)), (2, .ref (rh iMO)), (3, .ref (rh iOUT)), (4, .int iv)] [] σ := by
  have hC := c_LA_run (l := l) (D := D) (rh := rh) (cA := cA) hlt (xs (iv + 1).toNatClampNeg) σ hR.1.ic
  obtain ⟨him, g1, g2, g3, g4⟩ := glue (S1 := wo (f_SM_run (xs (iv + 1).toNatClampNeg) σ)) (Fr := fun b => (f_MO_run (xs (iv + 1).toNatClampNeg) b).2) (vr := fun b => (f_MO_run (xs (iv + 1).toNatClampNeg) b).1) hR (fun a0 b0 b h => S_run h (xs (iv + 1).toNatClampNeg)) (wo_row _)
  have hM := c_MO_run (l := l) (D := D) (rh := rh) (cA := cA) (xs (iv + 1).toNatClampNeg) (wo (f_SM_run (xs (iv + 1).toNatClampNeg) σ)) him
  generalize f_SM_run (xs (iv + 1).toNatClampNeg) σ = E at hC him hM g1 g2 g3 g4
  generalize f_MO_run (xs (iv + 1).toNatClampNeg) (wo E) = F at hM g1 g2 g3 g4
  refine v_aload_n X 1 dL_law_484 rfl rfl ?_
  refine v_aload_n X 0 dL_law_485 rfl rfl ?_
  refine v_iload X 4 dL_law_486 rfl ?_
  refine v_iconst (v := 1) X dL_law_488 (by decide) ?_
  refine v_iadd X dL_law_489 ?_
  refine v_sld X hX hbl hbA h1 dL_law_490 ?_
  refine v_aload_n X 3 dL_law_491 rfl rfl ?_
  refine v_callS_CW (rest := []) X [.ref (rh iSM), .int (xs (iv + 1).toNatClampNeg), .ref (rh iOUT)] hC mw_LA_run wsq_run wq_102 rfl ⟨by decide, by decide⟩ (Nat.le_of_ble_eq_true rfl) hf dL_law_492 ?_
  refine v_istore (lv' := [(5, .int E.1), (0, .ref b), (1, .ref (rh iSM)), (2, .ref (rh iMO)), (3, .ref (rh iOUT)), (4, .int iv)]) X dL_law_495 (by decide) rfl ?_
  refine v_aload_n X 3 dL_law_497 rfl rfl ?_
  refine v_aload_n X 1 dL_law_498 rfl rfl ?_
  refine v_iload X 5 dL_law_499 rfl ?_
  refine v_iconst (v := 1) X dL_law_501 (by decide) ?_
  refine v_iadd X dL_law_502 ?_
  refine v_sld X hX hbl hbA h1 dL_law_503 ?_
  refine v_callV_CI (rest := []) X [.int (xs (iv + 1).toNatClampNeg)] hM mfq_MO_run wiq_MO_run wlq_MO_run lt_MO sh_MO rfl wq_105 rfl ⟨by decide, by decide⟩ (Nat.le_of_ble_eq_true rfl) hf dL_law_504 ?_
  refine v_istore (lv' := [(6, .int F.1), (5, .int E.1), (0, .ref b), (1, .ref (rh iSM)), (2, .ref (rh iMO)), (3, .ref (rh iOUT)), (4, .int iv)]) X dL_law_507 (by decide) rfl ?_
  refine v_aload_n X 4 dL_law_509 rfl rfl ?_
  refine v_callV_CI (rest := []) X [] (c_MO_thrown F.2) mfq_MO_thrown wiq_MO_thrown wlq_MO_thrown lt_MO sh_MO rfl wq_76 rfl ⟨by decide, by decide⟩ (Nat.le_of_ble_eq_true rfl) hf dL_law_510 ?_
  refine v_iload X 1 dL_law_513 rfl ?_
  refine v_icmp_eq X 520 dL_law_515 (by decide) (fun _ => ?_) (fun h9 => absurd g1 h9)
  refine v_iload X 1 dL_law_520 rfl ?_
  refine v_if_ne X 537 dL_law_522 (by decide) (fun _ => ?_) (fun h0 => ?_)
  · refine v_goto (tgt := 881) X dL_law_537 (by decide) ?_
    exact v_lv (lv' := [(0, .ref b), (1, .ref (rh iSM)), (2, .ref (rh iMO)), (3, .ref (rh iOUT)), (4, .int iv)]) [2, 3, 4, 5, 6] rfl (kk F.2 g3)
  have h00 : E.1 = 0 := h0
  refine v_aload_n X 5 dL_law_525 rfl rfl ?_
  refine v_iconst (v := 0) X dL_law_526 (by decide) ?_
  refine v_lald (i := iOUT) (t0 := 4) X lt_OUT sh_OUT rfl (vin_mk (by decide) (by decide)) dL_law_527 ?_
  refine v_iload X 0 dL_law_528 rfl ?_
  refine v_i2l X dL_law_530 ?_
  refine v_lcmpE X (by rw [outEq h00 g2 g4]) dL_law_531 ?_
  refine v_if_eq X 537 dL_law_532 (by decide) (fun _ => ?_) (fun h9 => absurd rfl h9)
  refine v_goto (tgt := 881) X dL_law_537 (by decide) ?_
  exact v_lv (lv' := [(0, .ref b), (1, .ref (rh iSM)), (2, .ref (rh iMO)), (3, .ref (rh iOUT)), (4, .int iv)]) [2, 3, 4, 5, 6] rfl (kk F.2 g3)
set_option maxHeartbeats 1000000 in
theorem law_quote (X : Cx p s m args meth c D (tyL cA) A cL_law 7 RL) (hlt : l.stackTraces = false) (hX : va_X b L xs s s.heap) (hbl : b < s.heap.size) (hbA : ¬ A b) {iv : Int32} (h1 : vp_in (iv + 1) L) (h2 : vp_in (iv + 2) L) (h3 : vp_in (iv + 3) L) (h4 : vp_in (iv + 4) L) (hR : Rt σ σ σ σ) (hf : cells + 3 ≤ room_1.cells ∧ slots + 18 ≤ room_1.slots) (kk : ∀ σ9 : St, Rt σ9 σ9 σ9 σ9 → Vz p l e room_1 s m args below meth c D A 7 rh (rcW rh cA) NW (cells + 3) (slots + 18) Q 881 [(0, .ref b), (1, .ref (rh iSM)), (2, .ref (rh iMO)), (3, .ref (rh iOUT)), (4, .int iv)] [] σ9) : Vz p l e room_1 s m args below meth c D A 7 rh (rcW rh cA) NW cells slots Q 540 [(0, .ref b), (1, .ref (rh iSM)), (2, .ref (rh iMO)), (3, .ref (rh iOUT)), (4, .int iv)] [] σ := by
  have hC := c_LA_quote (l := l) (D := D) (rh := rh) (cA := cA) hlt (xs (iv + 1).toNatClampNeg) σ hR.1.ic
  obtain ⟨him, g1, g2, g3, g4⟩ := glue (S1 := wo (f_SM_quote (xs (iv + 1).toNatClampNeg) σ)) (Fr := fun b => (f_MO_quote (xs (iv + 1).toNatClampNeg) b).2) (vr := fun b => (f_MO_quote (xs (iv + 1).toNatClampNeg) b).1) hR (fun a0 b0 b h => S_quote h (xs (iv + 1).toNatClampNeg)) (wo_row _)
  have hM := c_MO_quote (l := l) (D := D) (rh := rh) (cA := cA) (xs (iv + 1).toNatClampNeg) (wo (f_SM_quote (xs (iv + 1).toNatClampNeg) σ))
  generalize f_SM_quote (xs (iv + 1).toNatClampNeg) σ = E at hC him hM g1 g2 g3 g4
  generalize f_MO_quote (xs (iv + 1).toNatClampNeg) (wo E) = F at hM g1 g2 g3 g4
  refine v_aload_n X 1 dL_law_540 rfl rfl ?_
  refine v_aload_n X 0 dL_law_541 rfl rfl ?_
  refine v_iload X 4 dL_law_542 rfl ?_
  refine v_iconst (v := 1) X dL_law_544 (by decide) ?_
  refine v_iadd X dL_law_545 ?_
  refine v_sld X hX hbl hbA h1 dL_law_546 ?_
  refine v_aload_n X 3 dL_law_547 rfl rfl ?_
  refine v_callS_CW (rest := []) X [.ref (rh iSM), .int (xs (iv + 1).toNatClampNeg), .ref (rh iOUT)] hC mw_LA_quote wsq_quote wq_106 rfl ⟨by decide, by decide⟩ (Nat.le_of_ble_eq_true rfl) hf dL_law_548 ?_
  refine v_istore (lv' := [(5, .int (w01 E.1)), (0, .ref b), (1, .ref (rh iSM)), (2, .ref (rh iMO)), (3, .ref (rh iOUT)), (4, .int iv)]) X dL_law_551 (by decide) rfl ?_
  refine v_aload_n X 3 dL_law_553 rfl rfl ?_
  refine v_aload_n X 1 dL_law_554 rfl rfl ?_
  refine v_iload X 5 dL_law_555 rfl ?_
  refine v_iconst (v := 1) X dL_law_557 (by decide) ?_
  refine v_iadd X dL_law_558 ?_
  refine v_sld X hX hbl hbA h1 dL_law_559 ?_
  refine v_callV_CI (rest := []) X [.int (xs (iv + 1).toNatClampNeg)] hM mfq_MO_quote wiq_MO_quote wlq_MO_quote lt_MO sh_MO rfl wq_108 rfl ⟨by decide, by decide⟩ (Nat.le_of_ble_eq_true rfl) hf dL_law_560 ?_
  refine v_istore (lv' := [(6, .int F.1), (5, .int (w01 E.1)), (0, .ref b), (1, .ref (rh iSM)), (2, .ref (rh iMO)), (3, .ref (rh iOUT)), (4, .int iv)]) X dL_law_563 (by decide) rfl ?_
  refine v_aload_n X 4 dL_law_565 rfl rfl ?_
  refine v_callV_CI (rest := []) X [] (c_MO_thrown F.2) mfq_MO_thrown wiq_MO_thrown wlq_MO_thrown lt_MO sh_MO rfl wq_76 rfl ⟨by decide, by decide⟩ (Nat.le_of_ble_eq_true rfl) hf dL_law_566 ?_
  refine v_iload X 1 dL_law_569 rfl ?_
  refine v_icmp_eq X 576 dL_law_571 (by decide) (fun _ => ?_) (fun h9 => absurd g1 h9)
  refine v_iload X 1 dL_law_576 rfl ?_
  refine v_if_ne X 593 dL_law_578 (by decide) (fun _ => ?_) (fun h0 => ?_)
  · refine v_goto (tgt := 881) X dL_law_593 (by decide) ?_
    exact v_lv (lv' := [(0, .ref b), (1, .ref (rh iSM)), (2, .ref (rh iMO)), (3, .ref (rh iOUT)), (4, .int iv)]) [2, 3, 4, 5, 6] rfl (kk F.2 g3)
  have h00 : E.1 = 0 := w01_0 h0
  refine v_aload_n X 5 dL_law_581 rfl rfl ?_
  refine v_iconst (v := 0) X dL_law_582 (by decide) ?_
  refine v_lald (i := iOUT) (t0 := 4) X lt_OUT sh_OUT rfl (vin_mk (by decide) (by decide)) dL_law_583 ?_
  refine v_iload X 0 dL_law_584 rfl ?_
  refine v_i2l X dL_law_586 ?_
  refine v_lcmpE X (by rw [outEq h00 g2 g4]) dL_law_587 ?_
  refine v_if_eq X 593 dL_law_588 (by decide) (fun _ => ?_) (fun h9 => absurd rfl h9)
  refine v_goto (tgt := 881) X dL_law_593 (by decide) ?_
  exact v_lv (lv' := [(0, .ref b), (1, .ref (rh iSM)), (2, .ref (rh iMO)), (3, .ref (rh iOUT)), (4, .int iv)]) [2, 3, 4, 5, 6] rfl (kk F.2 g3)
set_option maxHeartbeats 1000000 in
theorem law_register (X : Cx p s m args meth c D (tyL cA) A cL_law 7 RL) (hlt : l.stackTraces = false) (hX : va_X b L xs s s.heap) (hbl : b < s.heap.size) (hbA : ¬ A b) {iv : Int32} (h1 : vp_in (iv + 1) L) (h2 : vp_in (iv + 2) L) (h3 : vp_in (iv + 3) L) (h4 : vp_in (iv + 4) L) (hR : Rt σ σ σ σ) (hf : cells + 3 ≤ room_1.cells ∧ slots + 18 ≤ room_1.slots) (kk : ∀ σ9 : St, Rt σ9 σ9 σ9 σ9 → Vz p l e room_1 s m args below meth c D A 7 rh (rcW rh cA) NW (cells + 3) (slots + 18) Q 881 [(0, .ref b), (1, .ref (rh iSM)), (2, .ref (rh iMO)), (3, .ref (rh iOUT)), (4, .int iv)] [] σ9) : Vz p l e room_1 s m args below meth c D A 7 rh (rcW rh cA) NW cells slots Q 596 [(0, .ref b), (1, .ref (rh iSM)), (2, .ref (rh iMO)), (3, .ref (rh iOUT)), (4, .int iv)] [] σ := by
  have hC := c_LA_register (l := l) (D := D) (rh := rh) (cA := cA) hlt (xs (iv + 1).toNatClampNeg) (xs (iv + 2).toNatClampNeg) σ hR.1.ic
  obtain ⟨him, g1, g2, g3, g4⟩ := glue (S1 := wo (f_SM_register (xs (iv + 1).toNatClampNeg) (xs (iv + 2).toNatClampNeg) σ)) (Fr := fun b => (f_MO_register (xs (iv + 1).toNatClampNeg) (xs (iv + 2).toNatClampNeg) b).2) (vr := fun b => (f_MO_register (xs (iv + 1).toNatClampNeg) (xs (iv + 2).toNatClampNeg) b).1) hR (fun a0 b0 b h => S_register h (xs (iv + 1).toNatClampNeg) (xs (iv + 2).toNatClampNeg)) (wo_row _)
  have hM := c_MO_register (l := l) (D := D) (rh := rh) (cA := cA) (xs (iv + 1).toNatClampNeg) (xs (iv + 2).toNatClampNeg) (wo (f_SM_register (xs (iv + 1).toNatClampNeg) (xs (iv + 2).toNatClampNeg) σ)) him
  generalize f_SM_register (xs (iv + 1).toNatClampNeg) (xs (iv + 2).toNatClampNeg) σ = E at hC him hM g1 g2 g3 g4
  generalize f_MO_register (xs (iv + 1).toNatClampNeg) (xs (iv + 2).toNatClampNeg) (wo E) = F at hM g1 g2 g3 g4
  refine v_aload_n X 1 dL_law_596 rfl rfl ?_
  refine v_aload_n X 0 dL_law_597 rfl rfl ?_
  refine v_iload X 4 dL_law_598 rfl ?_
  refine v_iconst (v := 1) X dL_law_600 (by decide) ?_
  refine v_iadd X dL_law_601 ?_
  refine v_sld X hX hbl hbA h1 dL_law_602 ?_
  refine v_aload_n X 0 dL_law_603 rfl rfl ?_
  refine v_iload X 4 dL_law_604 rfl ?_
  refine v_iconst (v := 2) X dL_law_606 (by decide) ?_
  refine v_iadd X dL_law_607 ?_
  refine v_sld X hX hbl hbA h2 dL_law_608 ?_
  refine v_aload_n X 3 dL_law_609 rfl rfl ?_
  refine v_callS_CW (rest := []) X [.ref (rh iSM), .int (xs (iv + 1).toNatClampNeg), .int (xs (iv + 2).toNatClampNeg), .ref (rh iOUT)] hC mw_LA_register wsq_register wq_109 rfl ⟨by decide, by decide⟩ (Nat.le_of_ble_eq_true rfl) hf dL_law_610 ?_
  refine v_istore (lv' := [(5, .int E.1), (0, .ref b), (1, .ref (rh iSM)), (2, .ref (rh iMO)), (3, .ref (rh iOUT)), (4, .int iv)]) X dL_law_613 (by decide) rfl ?_
  refine v_aload_n X 3 dL_law_615 rfl rfl ?_
  refine v_aload_n X 1 dL_law_616 rfl rfl ?_
  refine v_iload X 5 dL_law_617 rfl ?_
  refine v_iconst (v := 1) X dL_law_619 (by decide) ?_
  refine v_iadd X dL_law_620 ?_
  refine v_sld X hX hbl hbA h1 dL_law_621 ?_
  refine v_aload_n X 1 dL_law_622 rfl rfl ?_
  refine v_iload X 5 dL_law_623 rfl ?_
  refine v_iconst (v := 2) X dL_law_625 (by decide) ?_
  refine v_iadd X dL_law_626 ?_
  refine v_sld X hX hbl hbA h2 dL_law_627 ?_
  refine v_callV_CI (rest := []) X [.int (xs (iv + 1).toNatClampNeg), .int (xs (iv + 2).toNatClampNeg)] hM mfq_MO_register wiq_MO_register wlq_MO_register lt_MO sh_MO rfl wq_111 rfl ⟨by decide, by decide⟩ (Nat.le_of_ble_eq_true rfl) hf dL_law_628 ?_
  refine v_istore (lv' := [(6, .int F.1), (5, .int E.1), (0, .ref b), (1, .ref (rh iSM)), (2, .ref (rh iMO)), (3, .ref (rh iOUT)), (4, .int iv)]) X dL_law_631 (by decide) rfl ?_
  refine v_aload_n X 4 dL_law_633 rfl rfl ?_
  refine v_callV_CI (rest := []) X [] (c_MO_thrown F.2) mfq_MO_thrown wiq_MO_thrown wlq_MO_thrown lt_MO sh_MO rfl wq_76 rfl ⟨by decide, by decide⟩ (Nat.le_of_ble_eq_true rfl) hf dL_law_634 ?_
  refine v_iload X 1 dL_law_637 rfl ?_
  refine v_icmp_eq X 644 dL_law_639 (by decide) (fun _ => ?_) (fun h9 => absurd g1 h9)
  refine v_iload X 1 dL_law_644 rfl ?_
  refine v_if_ne X 661 dL_law_646 (by decide) (fun _ => ?_) (fun h0 => ?_)
  · refine v_goto (tgt := 881) X dL_law_661 (by decide) ?_
    exact v_lv (lv' := [(0, .ref b), (1, .ref (rh iSM)), (2, .ref (rh iMO)), (3, .ref (rh iOUT)), (4, .int iv)]) [2, 3, 4, 5, 6] rfl (kk F.2 g3)
  have h00 : E.1 = 0 := h0
  refine v_aload_n X 5 dL_law_649 rfl rfl ?_
  refine v_iconst (v := 0) X dL_law_650 (by decide) ?_
  refine v_lald (i := iOUT) (t0 := 4) X lt_OUT sh_OUT rfl (vin_mk (by decide) (by decide)) dL_law_651 ?_
  refine v_iload X 0 dL_law_652 rfl ?_
  refine v_i2l X dL_law_654 ?_
  refine v_lcmpE X (by rw [outEq h00 g2 g4]) dL_law_655 ?_
  refine v_if_eq X 661 dL_law_656 (by decide) (fun _ => ?_) (fun h9 => absurd rfl h9)
  refine v_goto (tgt := 881) X dL_law_661 (by decide) ?_
  exact v_lv (lv' := [(0, .ref b), (1, .ref (rh iSM)), (2, .ref (rh iMO)), (3, .ref (rh iOUT)), (4, .int iv)]) [2, 3, 4, 5, 6] rfl (kk F.2 g3)
set_option maxHeartbeats 1000000 in
theorem law_memory (X : Cx p s m args meth c D (tyL cA) A cL_law 7 RL) (hlt : l.stackTraces = false) (hX : va_X b L xs s s.heap) (hbl : b < s.heap.size) (hbA : ¬ A b) {iv : Int32} (h1 : vp_in (iv + 1) L) (h2 : vp_in (iv + 2) L) (h3 : vp_in (iv + 3) L) (h4 : vp_in (iv + 4) L) (hR : Rt σ σ σ σ) (hf : cells + 3 ≤ room_1.cells ∧ slots + 18 ≤ room_1.slots) (kk : ∀ σ9 : St, Rt σ9 σ9 σ9 σ9 → Vz p l e room_1 s m args below meth c D A 7 rh (rcW rh cA) NW (cells + 3) (slots + 18) Q 881 [(0, .ref b), (1, .ref (rh iSM)), (2, .ref (rh iMO)), (3, .ref (rh iOUT)), (4, .int iv)] [] σ9) : Vz p l e room_1 s m args below meth c D A 7 rh (rcW rh cA) NW cells slots Q 664 [(0, .ref b), (1, .ref (rh iSM)), (2, .ref (rh iMO)), (3, .ref (rh iOUT)), (4, .int iv)] [] σ := by
  have hC := c_LA_memory (l := l) (D := D) (rh := rh) (cA := cA) hlt (xs (iv + 1).toNatClampNeg) σ hR.1.ic
  obtain ⟨him, g1, g2, g3, g4⟩ := glue (S1 := wo (f_SM_memory (xs (iv + 1).toNatClampNeg) σ)) (Fr := fun b => (f_MO_memory (xs (iv + 1).toNatClampNeg) b).2) (vr := fun b => (f_MO_memory (xs (iv + 1).toNatClampNeg) b).1) hR (fun a0 b0 b h => S_memory h (xs (iv + 1).toNatClampNeg)) (wo_row _)
  have hM := c_MO_memory (l := l) (D := D) (rh := rh) (cA := cA) (xs (iv + 1).toNatClampNeg) (wo (f_SM_memory (xs (iv + 1).toNatClampNeg) σ)) him
  generalize f_SM_memory (xs (iv + 1).toNatClampNeg) σ = E at hC him hM g1 g2 g3 g4
  generalize f_MO_memory (xs (iv + 1).toNatClampNeg) (wo E) = F at hM g1 g2 g3 g4
  refine v_aload_n X 1 dL_law_664 rfl rfl ?_
  refine v_aload_n X 0 dL_law_665 rfl rfl ?_
  refine v_iload X 4 dL_law_666 rfl ?_
  refine v_iconst (v := 1) X dL_law_668 (by decide) ?_
  refine v_iadd X dL_law_669 ?_
  refine v_sld X hX hbl hbA h1 dL_law_670 ?_
  refine v_aload_n X 3 dL_law_671 rfl rfl ?_
  refine v_callS_CW (rest := []) X [.ref (rh iSM), .int (xs (iv + 1).toNatClampNeg), .ref (rh iOUT)] hC mw_LA_memory wsq_memory wq_112 rfl ⟨by decide, by decide⟩ (Nat.le_of_ble_eq_true rfl) hf dL_law_672 ?_
  refine v_istore (lv' := [(5, .int E.1), (0, .ref b), (1, .ref (rh iSM)), (2, .ref (rh iMO)), (3, .ref (rh iOUT)), (4, .int iv)]) X dL_law_675 (by decide) rfl ?_
  refine v_aload_n X 3 dL_law_677 rfl rfl ?_
  refine v_aload_n X 1 dL_law_678 rfl rfl ?_
  refine v_iload X 5 dL_law_679 rfl ?_
  refine v_iconst (v := 1) X dL_law_681 (by decide) ?_
  refine v_iadd X dL_law_682 ?_
  refine v_sld X hX hbl hbA h1 dL_law_683 ?_
  refine v_callV_CI (rest := []) X [.int (xs (iv + 1).toNatClampNeg)] hM mfq_MO_memory wiq_MO_memory wlq_MO_memory lt_MO sh_MO rfl wq_114 rfl ⟨by decide, by decide⟩ (Nat.le_of_ble_eq_true rfl) hf dL_law_684 ?_
  refine v_istore (lv' := [(6, .int F.1), (5, .int E.1), (0, .ref b), (1, .ref (rh iSM)), (2, .ref (rh iMO)), (3, .ref (rh iOUT)), (4, .int iv)]) X dL_law_687 (by decide) rfl ?_
  refine v_aload_n X 4 dL_law_689 rfl rfl ?_
  refine v_callV_CI (rest := []) X [] (c_MO_thrown F.2) mfq_MO_thrown wiq_MO_thrown wlq_MO_thrown lt_MO sh_MO rfl wq_76 rfl ⟨by decide, by decide⟩ (Nat.le_of_ble_eq_true rfl) hf dL_law_690 ?_
  refine v_iload X 1 dL_law_693 rfl ?_
  refine v_icmp_eq X 700 dL_law_695 (by decide) (fun _ => ?_) (fun h9 => absurd g1 h9)
  refine v_iload X 1 dL_law_700 rfl ?_
  refine v_if_ne X 717 dL_law_702 (by decide) (fun _ => ?_) (fun h0 => ?_)
  · refine v_goto (tgt := 881) X dL_law_717 (by decide) ?_
    exact v_lv (lv' := [(0, .ref b), (1, .ref (rh iSM)), (2, .ref (rh iMO)), (3, .ref (rh iOUT)), (4, .int iv)]) [2, 3, 4, 5, 6] rfl (kk F.2 g3)
  have h00 : E.1 = 0 := h0
  refine v_aload_n X 5 dL_law_705 rfl rfl ?_
  refine v_iconst (v := 0) X dL_law_706 (by decide) ?_
  refine v_lald (i := iOUT) (t0 := 4) X lt_OUT sh_OUT rfl (vin_mk (by decide) (by decide)) dL_law_707 ?_
  refine v_iload X 0 dL_law_708 rfl ?_
  refine v_i2l X dL_law_710 ?_
  refine v_lcmpE X (by rw [outEq h00 g2 g4]) dL_law_711 ?_
  refine v_if_eq X 717 dL_law_712 (by decide) (fun _ => ?_) (fun h9 => absurd rfl h9)
  refine v_goto (tgt := 881) X dL_law_717 (by decide) ?_
  exact v_lv (lv' := [(0, .ref b), (1, .ref (rh iSM)), (2, .ref (rh iMO)), (3, .ref (rh iOUT)), (4, .int iv)]) [2, 3, 4, 5, 6] rfl (kk F.2 g3)
set_option maxHeartbeats 1000000 in
theorem law_told (X : Cx p s m args meth c D (tyL cA) A cL_law 7 RL) (hlt : l.stackTraces = false) (hX : va_X b L xs s s.heap) (hbl : b < s.heap.size) (hbA : ¬ A b) {iv : Int32} (h1 : vp_in (iv + 1) L) (h2 : vp_in (iv + 2) L) (h3 : vp_in (iv + 3) L) (h4 : vp_in (iv + 4) L) (hR : Rt σ σ σ σ) (hf : cells + 3 ≤ room_1.cells ∧ slots + 18 ≤ room_1.slots) (kk : ∀ σ9 : St, Rt σ9 σ9 σ9 σ9 → Vz p l e room_1 s m args below meth c D A 7 rh (rcW rh cA) NW (cells + 3) (slots + 18) Q 881 [(0, .ref b), (1, .ref (rh iSM)), (2, .ref (rh iMO)), (3, .ref (rh iOUT)), (4, .int iv)] [] σ9) : Vz p l e room_1 s m args below meth c D A 7 rh (rcW rh cA) NW cells slots Q 720 [(0, .ref b), (1, .ref (rh iSM)), (2, .ref (rh iMO)), (3, .ref (rh iOUT)), (4, .int iv)] [] σ := by
  have hC := c_LA_told (l := l) (D := D) (rh := rh) (cA := cA) hlt (xs (iv + 1).toNatClampNeg) (xs (iv + 2).toNatClampNeg) σ hR.1.ic
  obtain ⟨him, g1, g2, g3, g4⟩ := glue (S1 := wo (f_SM_told (xs (iv + 1).toNatClampNeg) (xs (iv + 2).toNatClampNeg) σ)) (Fr := fun b => (f_MO_told (xs (iv + 1).toNatClampNeg) (xs (iv + 2).toNatClampNeg) b).2) (vr := fun b => (f_MO_told (xs (iv + 1).toNatClampNeg) (xs (iv + 2).toNatClampNeg) b).1) hR (fun a0 b0 b h => S_told h (xs (iv + 1).toNatClampNeg) (xs (iv + 2).toNatClampNeg)) (wo_row _)
  have hM := c_MO_told (l := l) (D := D) (rh := rh) (cA := cA) (xs (iv + 1).toNatClampNeg) (xs (iv + 2).toNatClampNeg) (wo (f_SM_told (xs (iv + 1).toNatClampNeg) (xs (iv + 2).toNatClampNeg) σ)) him
  generalize f_SM_told (xs (iv + 1).toNatClampNeg) (xs (iv + 2).toNatClampNeg) σ = E at hC him hM g1 g2 g3 g4
  generalize f_MO_told (xs (iv + 1).toNatClampNeg) (xs (iv + 2).toNatClampNeg) (wo E) = F at hM g1 g2 g3 g4
  refine v_aload_n X 1 dL_law_720 rfl rfl ?_
  refine v_aload_n X 0 dL_law_721 rfl rfl ?_
  refine v_iload X 4 dL_law_722 rfl ?_
  refine v_iconst (v := 1) X dL_law_724 (by decide) ?_
  refine v_iadd X dL_law_725 ?_
  refine v_sld X hX hbl hbA h1 dL_law_726 ?_
  refine v_aload_n X 0 dL_law_727 rfl rfl ?_
  refine v_iload X 4 dL_law_728 rfl ?_
  refine v_iconst (v := 2) X dL_law_730 (by decide) ?_
  refine v_iadd X dL_law_731 ?_
  refine v_sld X hX hbl hbA h2 dL_law_732 ?_
  refine v_aload_n X 3 dL_law_733 rfl rfl ?_
  refine v_callS_CW (rest := []) X [.ref (rh iSM), .int (xs (iv + 1).toNatClampNeg), .int (xs (iv + 2).toNatClampNeg), .ref (rh iOUT)] hC mw_LA_told wsq_told wq_115 rfl ⟨by decide, by decide⟩ (Nat.le_of_ble_eq_true rfl) hf dL_law_734 ?_
  refine v_istore (lv' := [(5, .int E.1), (0, .ref b), (1, .ref (rh iSM)), (2, .ref (rh iMO)), (3, .ref (rh iOUT)), (4, .int iv)]) X dL_law_737 (by decide) rfl ?_
  refine v_aload_n X 3 dL_law_739 rfl rfl ?_
  refine v_aload_n X 1 dL_law_740 rfl rfl ?_
  refine v_iload X 5 dL_law_741 rfl ?_
  refine v_iconst (v := 1) X dL_law_743 (by decide) ?_
  refine v_iadd X dL_law_744 ?_
  refine v_sld X hX hbl hbA h1 dL_law_745 ?_
  refine v_aload_n X 1 dL_law_746 rfl rfl ?_
  refine v_iload X 5 dL_law_747 rfl ?_
  refine v_iconst (v := 2) X dL_law_749 (by decide) ?_
  refine v_iadd X dL_law_750 ?_
  refine v_sld X hX hbl hbA h2 dL_law_751 ?_
  refine v_callV_CI (rest := []) X [.int (xs (iv + 1).toNatClampNeg), .int (xs (iv + 2).toNatClampNeg)] hM mfq_MO_told wiq_MO_told wlq_MO_told lt_MO sh_MO rfl wq_117 rfl ⟨by decide, by decide⟩ (Nat.le_of_ble_eq_true rfl) hf dL_law_752 ?_
  refine v_istore (lv' := [(6, .int F.1), (5, .int E.1), (0, .ref b), (1, .ref (rh iSM)), (2, .ref (rh iMO)), (3, .ref (rh iOUT)), (4, .int iv)]) X dL_law_755 (by decide) rfl ?_
  refine v_aload_n X 4 dL_law_757 rfl rfl ?_
  refine v_callV_CI (rest := []) X [] (c_MO_thrown F.2) mfq_MO_thrown wiq_MO_thrown wlq_MO_thrown lt_MO sh_MO rfl wq_76 rfl ⟨by decide, by decide⟩ (Nat.le_of_ble_eq_true rfl) hf dL_law_758 ?_
  refine v_iload X 1 dL_law_761 rfl ?_
  refine v_icmp_eq X 768 dL_law_763 (by decide) (fun _ => ?_) (fun h9 => absurd g1 h9)
  refine v_iload X 1 dL_law_768 rfl ?_
  refine v_if_ne X 785 dL_law_770 (by decide) (fun _ => ?_) (fun h0 => ?_)
  · refine v_goto (tgt := 881) X dL_law_785 (by decide) ?_
    exact v_lv (lv' := [(0, .ref b), (1, .ref (rh iSM)), (2, .ref (rh iMO)), (3, .ref (rh iOUT)), (4, .int iv)]) [2, 3, 4, 5, 6] rfl (kk F.2 g3)
  have h00 : E.1 = 0 := h0
  refine v_aload_n X 5 dL_law_773 rfl rfl ?_
  refine v_iconst (v := 0) X dL_law_774 (by decide) ?_
  refine v_lald (i := iOUT) (t0 := 4) X lt_OUT sh_OUT rfl (vin_mk (by decide) (by decide)) dL_law_775 ?_
  refine v_iload X 0 dL_law_776 rfl ?_
  refine v_i2l X dL_law_778 ?_
  refine v_lcmpE X (by rw [outEq h00 g2 g4]) dL_law_779 ?_
  refine v_if_eq X 785 dL_law_780 (by decide) (fun _ => ?_) (fun h9 => absurd rfl h9)
  refine v_goto (tgt := 881) X dL_law_785 (by decide) ?_
  exact v_lv (lv' := [(0, .ref b), (1, .ref (rh iSM)), (2, .ref (rh iMO)), (3, .ref (rh iOUT)), (4, .int iv)]) [2, 3, 4, 5, 6] rfl (kk F.2 g3)
set_option maxHeartbeats 1000000 in
theorem law_object (X : Cx p s m args meth c D (tyL cA) A cL_law 7 RL) (hlt : l.stackTraces = false) (hX : va_X b L xs s s.heap) (hbl : b < s.heap.size) (hbA : ¬ A b) {iv : Int32} (h1 : vp_in (iv + 1) L) (h2 : vp_in (iv + 2) L) (h3 : vp_in (iv + 3) L) (h4 : vp_in (iv + 4) L) (hR : Rt σ σ σ σ) (hf : cells + 3 ≤ room_1.cells ∧ slots + 18 ≤ room_1.slots) (kk : ∀ σ9 : St, Rt σ9 σ9 σ9 σ9 → Vz p l e room_1 s m args below meth c D A 7 rh (rcW rh cA) NW (cells + 3) (slots + 18) Q 881 [(0, .ref b), (1, .ref (rh iSM)), (2, .ref (rh iMO)), (3, .ref (rh iOUT)), (4, .int iv)] [] σ9) : Vz p l e room_1 s m args below meth c D A 7 rh (rcW rh cA) NW cells slots Q 788 [(0, .ref b), (1, .ref (rh iSM)), (2, .ref (rh iMO)), (3, .ref (rh iOUT)), (4, .int iv)] [] σ := by
  have hC := c_LA_object (l := l) (D := D) (rh := rh) (cA := cA) hlt (xs (iv + 1).toNatClampNeg) (xs (iv + 2).toNatClampNeg) σ hR.1.ic
  obtain ⟨him, g1, g2, g3, g4⟩ := glue (S1 := wo (f_SM_object (xs (iv + 1).toNatClampNeg) (xs (iv + 2).toNatClampNeg) σ)) (Fr := fun b => (f_MO_object (xs (iv + 1).toNatClampNeg) (xs (iv + 2).toNatClampNeg) b).2) (vr := fun b => (f_MO_object (xs (iv + 1).toNatClampNeg) (xs (iv + 2).toNatClampNeg) b).1) hR (fun a0 b0 b h => S_object h (xs (iv + 1).toNatClampNeg) (xs (iv + 2).toNatClampNeg)) (wo_row _)
  have hM := c_MO_object (l := l) (D := D) (rh := rh) (cA := cA) (xs (iv + 1).toNatClampNeg) (xs (iv + 2).toNatClampNeg) (wo (f_SM_object (xs (iv + 1).toNatClampNeg) (xs (iv + 2).toNatClampNeg) σ)) him
  generalize f_SM_object (xs (iv + 1).toNatClampNeg) (xs (iv + 2).toNatClampNeg) σ = E at hC him hM g1 g2 g3 g4
  generalize f_MO_object (xs (iv + 1).toNatClampNeg) (xs (iv + 2).toNatClampNeg) (wo E) = F at hM g1 g2 g3 g4
  refine v_aload_n X 1 dL_law_788 rfl rfl ?_
  refine v_aload_n X 0 dL_law_789 rfl rfl ?_
  refine v_iload X 4 dL_law_790 rfl ?_
  refine v_iconst (v := 1) X dL_law_792 (by decide) ?_
  refine v_iadd X dL_law_793 ?_
  refine v_sld X hX hbl hbA h1 dL_law_794 ?_
  refine v_aload_n X 0 dL_law_795 rfl rfl ?_
  refine v_iload X 4 dL_law_796 rfl ?_
  refine v_iconst (v := 2) X dL_law_798 (by decide) ?_
  refine v_iadd X dL_law_799 ?_
  refine v_sld X hX hbl hbA h2 dL_law_800 ?_
  refine v_aload_n X 3 dL_law_801 rfl rfl ?_
  refine v_callS_CW (rest := []) X [.ref (rh iSM), .int (xs (iv + 1).toNatClampNeg), .int (xs (iv + 2).toNatClampNeg), .ref (rh iOUT)] hC mw_LA_object wsq_object wq_118 rfl ⟨by decide, by decide⟩ (Nat.le_of_ble_eq_true rfl) hf dL_law_802 ?_
  refine v_istore (lv' := [(5, .int E.1), (0, .ref b), (1, .ref (rh iSM)), (2, .ref (rh iMO)), (3, .ref (rh iOUT)), (4, .int iv)]) X dL_law_805 (by decide) rfl ?_
  refine v_aload_n X 3 dL_law_807 rfl rfl ?_
  refine v_aload_n X 1 dL_law_808 rfl rfl ?_
  refine v_iload X 5 dL_law_809 rfl ?_
  refine v_iconst (v := 1) X dL_law_811 (by decide) ?_
  refine v_iadd X dL_law_812 ?_
  refine v_sld X hX hbl hbA h1 dL_law_813 ?_
  refine v_aload_n X 1 dL_law_814 rfl rfl ?_
  refine v_iload X 5 dL_law_815 rfl ?_
  refine v_iconst (v := 2) X dL_law_817 (by decide) ?_
  refine v_iadd X dL_law_818 ?_
  refine v_sld X hX hbl hbA h2 dL_law_819 ?_
  refine v_callV_CI (rest := []) X [.int (xs (iv + 1).toNatClampNeg), .int (xs (iv + 2).toNatClampNeg)] hM mfq_MO_object wiq_MO_object wlq_MO_object lt_MO sh_MO rfl wq_120 rfl ⟨by decide, by decide⟩ (Nat.le_of_ble_eq_true rfl) hf dL_law_820 ?_
  refine v_istore (lv' := [(6, .int F.1), (5, .int E.1), (0, .ref b), (1, .ref (rh iSM)), (2, .ref (rh iMO)), (3, .ref (rh iOUT)), (4, .int iv)]) X dL_law_823 (by decide) rfl ?_
  refine v_aload_n X 4 dL_law_825 rfl rfl ?_
  refine v_callV_CI (rest := []) X [] (c_MO_thrown F.2) mfq_MO_thrown wiq_MO_thrown wlq_MO_thrown lt_MO sh_MO rfl wq_76 rfl ⟨by decide, by decide⟩ (Nat.le_of_ble_eq_true rfl) hf dL_law_826 ?_
  refine v_iload X 1 dL_law_829 rfl ?_
  refine v_icmp_eq X 836 dL_law_831 (by decide) (fun _ => ?_) (fun h9 => absurd g1 h9)
  refine v_iload X 1 dL_law_836 rfl ?_
  refine v_if_ne X 853 dL_law_838 (by decide) (fun _ => ?_) (fun h0 => ?_)
  · refine v_goto (tgt := 881) X dL_law_853 (by decide) ?_
    exact v_lv (lv' := [(0, .ref b), (1, .ref (rh iSM)), (2, .ref (rh iMO)), (3, .ref (rh iOUT)), (4, .int iv)]) [2, 3, 4, 5, 6] rfl (kk F.2 g3)
  have h00 : E.1 = 0 := h0
  refine v_aload_n X 5 dL_law_841 rfl rfl ?_
  refine v_iconst (v := 0) X dL_law_842 (by decide) ?_
  refine v_lald (i := iOUT) (t0 := 4) X lt_OUT sh_OUT rfl (vin_mk (by decide) (by decide)) dL_law_843 ?_
  refine v_iload X 0 dL_law_844 rfl ?_
  refine v_i2l X dL_law_846 ?_
  refine v_lcmpE X (by rw [outEq h00 g2 g4]) dL_law_847 ?_
  refine v_if_eq X 853 dL_law_848 (by decide) (fun _ => ?_) (fun h9 => absurd rfl h9)
  refine v_goto (tgt := 881) X dL_law_853 (by decide) ?_
  exact v_lv (lv' := [(0, .ref b), (1, .ref (rh iSM)), (2, .ref (rh iMO)), (3, .ref (rh iOUT)), (4, .int iv)]) [2, 3, 4, 5, 6] rfl (kk F.2 g3)
set_option maxHeartbeats 1000000 in
theorem law_count (X : Cx p s m args meth c D (tyL cA) A cL_law 7 RL) (hX : va_X b L xs s s.heap) (hbl : b < s.heap.size) (hbA : ¬ A b) {iv : Int32} (h1 : vp_in (iv + 1) L) (h2 : vp_in (iv + 2) L) (h3 : vp_in (iv + 3) L) (h4 : vp_in (iv + 4) L) (hR : Rt σ σ σ σ) (hf : cells + 3 ≤ room_1.cells ∧ slots + 18 ≤ room_1.slots) (kk : ∀ σ9 : St, Rt σ9 σ9 σ9 σ9 → Vz p l e room_1 s m args below meth c D A 7 rh (rcW rh cA) NW cells slots Q 881 [(0, .ref b), (1, .ref (rh iSM)), (2, .ref (rh iMO)), (3, .ref (rh iOUT)), (4, .int iv)] [] σ9) : Vz p l e room_1 s m args below meth c D A 7 rh (rcW rh cA) NW cells slots Q 856 [(0, .ref b), (1, .ref (rh iSM)), (2, .ref (rh iMO)), (3, .ref (rh iOUT)), (4, .int iv)] [] σ := by
  obtain ⟨g1, g2⟩ := S_count hR (xs (iv + 1).toNatClampNeg)
  have hC := c_SM_count (l := l) (D := D) (rh := rh) (cA := cA) (xs (iv + 1).toNatClampNeg) σ
  have hM := c_MO_count (l := l) (D := D) (rh := rh) (cA := cA) (xs (iv + 1).toNatClampNeg) σ
  have g3 := g2.cong2 (c := (f_MO_count (xs (iv + 1).toNatClampNeg) σ).2) (d := (f_MO_count (xs (iv + 1).toNatClampNeg) σ).2) (fun i hi => g2.1.fb i (by omega)) (fun _ _ _ => rfl)
  generalize f_SM_count (xs (iv + 1).toNatClampNeg) σ = E at hC g1
  generalize f_MO_count (xs (iv + 1).toNatClampNeg) σ = F at hM g1 g2 g3
  refine v_aload_n X 1 dL_law_856 rfl rfl ?_
  refine v_aload_n X 0 dL_law_857 rfl rfl ?_
  refine v_iload X 4 dL_law_858 rfl ?_
  refine v_iconst (v := 1) X dL_law_860 (by decide) ?_
  refine v_iadd X dL_law_861 ?_
  refine v_sld X hX hbl hbA h1 dL_law_862 ?_
  refine v_callV_CI (rest := []) X [.int (xs (iv + 1).toNatClampNeg)] hC mfq_SM_count wiq_SM_count wlq_SM_count lt_SM sh_SM rfl wq_121 rfl ⟨by decide, by decide⟩ (Nat.le_of_ble_eq_true rfl) ⟨by omega, by omega⟩ dL_law_863 ?_
  refine v_aload_n X 2 dL_law_866 rfl rfl ?_
  refine v_aload_n X 0 dL_law_867 rfl rfl ?_
  refine v_iload X 4 dL_law_868 rfl ?_
  refine v_iconst (v := 1) X dL_law_870 (by decide) ?_
  refine v_iadd X dL_law_871 ?_
  refine v_sld X hX hbl hbA h1 dL_law_872 ?_
  refine v_callV_CI (rest := [.int E]) X [.int (xs (iv + 1).toNatClampNeg)] hM mfq_MO_count wiq_MO_count wlq_MO_count lt_MO sh_MO rfl wq_124 rfl ⟨by decide, by decide⟩ (Nat.le_of_ble_eq_true rfl) ⟨by omega, by omega⟩ dL_law_873 ?_
  exact v_icmp_eq X 881 dL_law_876 (by decide) (fun _ => kk F.2 g3) (fun h9 => absurd g1.symm h9)
end LAW
