theorem mf_CH_clear : MF yX0_clear cX0_clear 1 none 0 := ⟨gw_of (by decide +kernel) rfl, gw_of (by decide +kernel) rfl, by decide +kernel, by decide +kernel, by decide +kernel⟩
theorem mf_PT_holds : MF yX3_holds cX3_holds 2 (some .boolean) 1 := ⟨gw_of (by decide +kernel) rfl, gw_of (by decide +kernel) rfl, by decide +kernel, by decide +kernel, by decide +kernel⟩
theorem mf_PT_overlaps : MF yX3_overlaps cX3_overlaps 3 (some .boolean) 2 := ⟨gw_of (by decide +kernel) rfl, gw_of (by decide +kernel) rfl, by decide +kernel, by decide +kernel, by decide +kernel⟩
theorem mf_PT_start : MF yX3_start cX3_start 2 none 1 := ⟨gw_of (by decide +kernel) rfl, gw_of (by decide +kernel) rfl, by decide +kernel, by decide +kernel, by decide +kernel⟩
theorem wf_MA_15 : Cond.fieldLink RX2 15 RX2 "words" "[I" ∈ gw := gw_of (by decide +kernel) rfl
theorem wf_MA_181 : Cond.fieldLink RX2 181 RX3 "number" "I" ∈ gw := gw_of (by decide +kernel) rfl
theorem wf_MA_186 : Cond.fieldLink RX2 186 RX0 "readers" "I" ∈ gw := gw_of (by decide +kernel) rfl
theorem wf_MA_21 : Cond.fieldLink RX2 21 RX2 "partitions" "[LSeparationMonitor$Partition;" ∈ gw := gw_of (by decide +kernel) rfl
theorem wf_MA_30 : Cond.fieldLink RX2 30 RX2 "channels" "[LSeparationMonitor$Channel;" ∈ gw := gw_of (by decide +kernel) rfl
theorem wf_MA_42 : Cond.fieldLink RX2 42 RX2 "time" "I" ∈ gw := gw_of (by decide +kernel) rfl
theorem wf_MA_59 : Cond.fieldLink RX2 59 RX3 "ready" "Z" ∈ gw := gw_of (by decide +kernel) rfl
theorem wf_MA_63 : Cond.fieldLink RX2 63 RX3 "measurement" "I" ∈ gw := gw_of (by decide +kernel) rfl
theorem wf_MA_73 : Cond.fieldLink RX2 73 RX3 "pc" "I" ∈ gw := gw_of (by decide +kernel) rfl
theorem wi_CH_clear : Cond.instanceMethod yX0_clear ∈ gw := gw_of (by decide +kernel) rfl
theorem wi_PT_holds : Cond.instanceMethod yX3_holds ∈ gw := gw_of (by decide +kernel) rfl
theorem wi_PT_overlaps : Cond.instanceMethod yX3_overlaps ∈ gw := gw_of (by decide +kernel) rfl
theorem wi_PT_start : Cond.instanceMethod yX3_start ∈ gw := gw_of (by decide +kernel) rfl
theorem wl_CH_clear : Cond.selects yX0_clear.cls yX0_clear yX0_clear ∈ gw := gw_of (by decide +kernel) rfl
theorem wl_PT_holds : Cond.selects yX3_holds.cls yX3_holds yX3_holds ∈ gw := gw_of (by decide +kernel) rfl
theorem wl_PT_overlaps : Cond.selects yX3_overlaps.cls yX3_overlaps yX3_overlaps ∈ gw := gw_of (by decide +kernel) rfl
theorem wl_PT_start : Cond.selects yX3_start.cls yX3_start yX3_start ∈ gw := gw_of (by decide +kernel) rfl
theorem wm_MA_48 : Cond.methodLink RX2 48 yX3_overlaps ∈ gw := gw_of (by decide +kernel) rfl
theorem wm_MA_52 : Cond.methodLink RX2 52 yX0_clear ∈ gw := gw_of (by decide +kernel) rfl
theorem wm_MA_55 : Cond.methodLink RX2 55 yX3_start ∈ gw := gw_of (by decide +kernel) rfl
theorem wm_MA_91 : Cond.methodLink RX2 91 yX3_holds ∈ gw := gw_of (by decide +kernel) rfl
theorem wn_MA_66 : Cond.methodLinkNest RX2 66 yX7_mix RX7 ∈ nw := nw_of (by decide +kernel) rfl
theorem wi_b {c N : Int32} (h : ¬ f_SM_within c 0 N = 0) : ¬ c < 0 ∧ ¬ N < c := by
  unfold f_SM_within at h
  by_cases h1 : c < 0
  · simp [h1] at h
  · by_cases h2 : N < c
    · simp [h1, h2] at h
    · exact ⟨h1, h2⟩
theorem wi_in {c : Int32} (h : ¬ f_SM_within c 0 3 = 0) : vp_in c 4 := by
  obtain ⟨h1, h2⟩ := wi_b h
  rw [ilt, t0i] at h1; rw [ilt] at h2
  have z : (3 : Int32).toInt = 3 := by decide
  exact vin_mk (by omega) (by omega)
theorem ch_in {c : Int32} (h : ¬ f_SM_isChannel c = 0) : vp_in c 4 := wi_in h
theorem pt_in {c : Int32} (h : ¬ f_SM_isPartition c = 0) : vp_in c 4 := wi_in h
theorem wo_in {c : Int32} (h : ¬ f_SM_isWord c = 0) : vp_in c 96 := by
  obtain ⟨h1, h2⟩ := wi_b (show ¬ f_SM_within c 0 95 = 0 from h)
  rw [ilt, t0i] at h1; rw [ilt] at h2
  have z : (95 : Int32).toInt = 95 := by decide
  exact vin_mk (by omega) (by omega)
theorem hold_in {σ : St} {p : Nat} {a : Int32} (hI : Ic σ) (hp : p < 4) (h : ¬ f_PT_holds p a σ = 0) : vp_in ((σ (iP p) 1) + (a / 4)) 96 := by
  obtain ⟨h1, h2⟩ := wi_b (show ¬ f_SM_within a 0 ((4 * (σ (iP p) 2)) - 4) = 0 from h)
  obtain ⟨g1, g2, g3, g4⟩ := hI.rg hp
  obtain ⟨x, hx, ex⟩ := nI_of (nlt0 g1)
  obtain ⟨y, hy, ey⟩ := nI_of (nlt0 g2)
  obtain ⟨z, hz, ez⟩ := nI_of h1
  rw [ex, nI_toInt hx] at g4
  rw [ey, nI_toInt hy] at g3 g4
  rw [ey, ez] at h2
  rw [ex, ez]
  have e4 : (4 : Int32) = nI 4 := by decide
  by_cases hy0 : y = 0
  · subst hy0
    exfalso
    apply h2
    rw [ilt, nI_toInt hz]
    have e : ((4 : Int32) * nI 0 - 4).toInt = -4 := by decide
    omega
  · rw [e4, pk_mul, pk_sub (by omega), nI_ltI (by omega) (by omega)] at h2
    rw [e4, pk_div hz (by omega) (by omega), nI_add]
    exact vp_in_nI (by omega) (by omega)
section CLS
variable {l : Launch} {D : va_G} {rh : Nat → Nat} {cA : Nat → ClassId}
def lp_MA_overlapsAnother_3 (xa : Int32) (xb : Int32) (xc : Int32) : Nat → Int32 → St → Int32
  | 0, _, _ => 0
  | k9 + 1, i4, σ => (if 4 ≤ i4 then 0 else (if i4 = xa then (lp_MA_overlapsAnother_3 xa xb xc k9 (i4 + 1) σ) else (if (f_PT_overlaps (i4).toNatClampNeg xb xc σ) = 0 then (lp_MA_overlapsAnother_3 xa xb xc k9 (i4 + 1) σ) else 1)))
set_option maxHeartbeats 4000000 in
set_option maxRecDepth 100000 in
theorem lc_MA_overlapsAnother_3 (xa : Int32) (xb : Int32) (xc : Int32) {p9 : Program} {e : Env} {s : State} {m : MethodId} {args : Array Value} {below : List Frame} {meth : Method} {c : Code} {A : Nat → Prop} {Q : State → Prop} (X : Cx p9 s m args meth c D (tyL cA) A cX2_overlapsAnother 5 yX2_overlapsAnother.cls) : ∀ (k9 : Nat) (i4 : Int32) (σ : St), (hi : 0 ≤ i4.toInt ∧ i4.toInt ≤ 4) → (4 - i4.toInt < (k9 : Int)) → (∀ (pc : Nat) (lv : List (Nat × Value)), decode cX2_overlapsAnother pc = .ok (.ireturn, 1) → Vz p9 l e (Rz 1) s m args below meth c D A 5 rh (rcW rh cA) NW 0 0 Q pc lv [.int (lp_MA_overlapsAnother_3 xa xb xc k9 i4 σ)] σ) → Vz p9 l e (Rz 1) s m args below meth c D A 5 rh (rcW rh cA) NW 0 0 Q 3 [(0, .ref (rh iMA)), (1, .int xa), (2, .int xb), (3, .int xc), (4, .int i4)] [] σ := by
  intro k9
  induction k9 with
  | zero =>
    intro i4 σ hi hmu hend
    exact absurd hmu (by omega)
  | succ k9 ih =>
    intro i4 σ hi hmu hend
    refine v_iload X 4 dX2_overlapsAnother_3 rfl ?_
    refine v_iconst (v := 4) X dX2_overlapsAnother_5 (by decide) ?_
    refine v_icmp_ge X 38 dX2_overlapsAnother_6 (by decide) (fun h6 => ?_) (fun h6 => ?_)
    ·
      refine v_iconst (v := 0) X dX2_overlapsAnother_38 (by decide) ?_
      have e9 : lp_MA_overlapsAnother_3 xa xb xc (k9 + 1) i4 σ = 0 := by simp only [lp_MA_overlapsAnother_3, if_pos h6]
      exact v_endI hend dX2_overlapsAnother_39 e9 rfl
    ·
      refine v_iload X 4 dX2_overlapsAnother_9 rfl ?_
      refine v_iload_n X 1 dX2_overlapsAnother_11 rfl rfl ?_
      refine v_icmp_eq X 32 dX2_overlapsAnother_12 (by decide) (fun h12 => ?_) (fun h12 => ?_)
      ·
        refine v_iinc (v := (i4 + 1)) (lv' := [(4, .int (i4 + 1)), (0, .ref (rh iMA)), (1, .int xa), (2, .int xb), (3, .int xc)]) X 4 dX2_overlapsAnother_32 rfl rfl (by decide) rfl ?_
        refine v_goto (tgt := 3) X dX2_overlapsAnother_35 (by decide) ?_
        have e9 : lp_MA_overlapsAnother_3 xa xb xc (k9 + 1) i4 σ = lp_MA_overlapsAnother_3 xa xb xc k9 (i4 + 1) σ := by simp only [lp_MA_overlapsAnother_3, if_neg h6, if_pos h12]
        rw [e9] at hend
        refine v_lv (lv' := [(0, .ref (rh iMA)), (1, .int xa), (2, .int xb), (3, .int xc), (4, .int (i4 + 1))]) [1, 2, 3, 4, 0] rfl ?_
        exact ih (i4 + 1) σ ⟨by have u9 := i_succ h6; omega, by have u9 := i_succ h6; have u8 := h6; rw [ile] at u8; have z : (4 : Int32).toInt = 4 := (by decide); omega⟩ (by have h9 := i_succ h6; omega) hend
      ·
        refine v_aload_n X 0 dX2_overlapsAnother_15 rfl rfl ?_
        refine v_getR (j := iAP) (i := iMA) (k := 2) X (lt_MA ) (sh_MA ) rfl in_MA (by decide) wf_MA_21 rfl (fun _ => rfl) dX2_overlapsAnother_16 ?_
        refine v_iload X 4 dX2_overlapsAnother_19 rfl ?_
        have hv21 : vp_in i4 4 := (vin_mk hi.1 (nle (by decide) h6))
        refine v_aald (i := iAP) (t0 := 1) (g := iP) X (lt_APT ) (sh_APT ) rfl hv21 dX2_overlapsAnother_21 ?_
        refine v_iload_n X 2 dX2_overlapsAnother_22 rfl rfl ?_
        refine v_iload_n X 3 dX2_overlapsAnother_23 rfl rfl ?_
        refine v_callV_CI (rest := []) X [.int xb, .int xc] (c_PT_overlaps (vin_lt hv21) xb xc σ ) mf_PT_overlaps wi_PT_overlaps wl_PT_overlaps (lt_PT (vin_lt hv21)) (sh_PT (vin_lt hv21)) rfl wm_MA_48 rfl ⟨by decide, by decide⟩ (Nat.le_of_ble_eq_true rfl) ⟨by decide, by decide⟩ dX2_overlapsAnother_24 ?_
        refine v_if_eq X 32 dX2_overlapsAnother_27 (by decide) (fun h27 => ?_) (fun h27 => ?_)
        ·
          refine v_iinc (v := (i4 + 1)) (lv' := [(4, .int (i4 + 1)), (0, .ref (rh iMA)), (1, .int xa), (2, .int xb), (3, .int xc)]) X 4 dX2_overlapsAnother_32 rfl rfl (by decide) rfl ?_
          refine v_goto (tgt := 3) X dX2_overlapsAnother_35 (by decide) ?_
          have e9 : lp_MA_overlapsAnother_3 xa xb xc (k9 + 1) i4 σ = lp_MA_overlapsAnother_3 xa xb xc k9 (i4 + 1) σ := by simp only [lp_MA_overlapsAnother_3, if_neg h6, if_neg h12, if_pos h27]
          rw [e9] at hend
          refine v_lv (lv' := [(0, .ref (rh iMA)), (1, .int xa), (2, .int xb), (3, .int xc), (4, .int (i4 + 1))]) [1, 2, 3, 4, 0] rfl ?_
          exact ih (i4 + 1) σ ⟨by have u9 := i_succ h6; omega, by have u9 := i_succ h6; have u8 := h6; rw [ile] at u8; have z : (4 : Int32).toInt = 4 := (by decide); omega⟩ (by have h9 := i_succ h6; omega) hend
        ·
          refine v_iconst (v := 1) X dX2_overlapsAnother_30 (by decide) ?_
          have e9 : lp_MA_overlapsAnother_3 xa xb xc (k9 + 1) i4 σ = 1 := by simp only [lp_MA_overlapsAnother_3, if_neg h6, if_neg h12, if_neg h27]
          exact v_endI hend dX2_overlapsAnother_31 e9 rfl
def f_MA_overlapsAnother (xa : Int32) (xb : Int32) (xc : Int32) (σ : St) : Int32 :=
  (lp_MA_overlapsAnother_3 xa xb xc 5 0 σ)
theorem zl_MA_overlapsAnother (xa xb xc : Int32) : ∀ (k : Nat) (i : Int32) (σ : St), lp_MA_overlapsAnother_3 xa xb xc k i σ = 0 ∨ lp_MA_overlapsAnother_3 xa xb xc k i σ = 1 := by
  intro k
  induction k with
  | zero => intro i σ; exact Or.inl rfl
  | succ k ih =>
    intro i σ
    simp only [lp_MA_overlapsAnother_3]
    repeat' split
    all_goals first | exact Or.inl rfl | exact Or.inr rfl | exact ih _ _
theorem z_MA_overlapsAnother (xa : Int32) (xb : Int32) (xc : Int32) (σ : St) : (f_MA_overlapsAnother xa xb xc σ) = 0 ∨ (f_MA_overlapsAnother xa xb xc σ) = 1 := by
  unfold f_MA_overlapsAnother
  exact zl_MA_overlapsAnother ..
set_option maxHeartbeats 4000000 in
set_option maxRecDepth 100000 in
theorem c_MA_overlapsAnother (xa : Int32) (xb : Int32) (xc : Int32) (σ : St) : CI l D (tyL cA) rh (rcW rh cA) NW yX2_overlapsAnother cX2_overlapsAnother 5 .boolean 1 [.ref (rh iMA), .int xa, .int xb, .int xc] σ (f_MA_overlapsAnother xa xb xc σ) σ := by
  refine CI.of rfl (Nat.le_of_ble_eq_true rfl) (zN (z_MA_overlapsAnother ..)) ?_
  intro p9 e s m args below meth c A Q X hend
  refine v_lv (lv' := [(0, .ref (rh iMA)), (1, .int xa), (2, .int xb), (3, .int xc)]) [0, 1, 2, 3] rfl ?_
  refine v_iconst (v := 0) X dX2_overlapsAnother_0 (by decide) ?_
  refine v_istore (lv' := [(4, .int 0), (0, .ref (rh iMA)), (1, .int xa), (2, .int xb), (3, .int xc)]) X dX2_overlapsAnother_1 (by decide) rfl ?_
  have e9 : f_MA_overlapsAnother xa xb xc σ = lp_MA_overlapsAnother_3 xa xb xc 5 0 σ := by simp only [f_MA_overlapsAnother]
  rw [e9] at hend
  refine v_lv (lv' := [(0, .ref (rh iMA)), (1, .int xa), (2, .int xb), (3, .int xc), (4, .int 0)]) [1, 2, 3, 4, 0] rfl ?_
  exact lc_MA_overlapsAnother_3 xa xb xc  X 5 0 σ ⟨by decide, by decide⟩ (by decide) hend
def lp_MA_start_31  : Nat → Int32 → Int32 → St → Int32 × St
  | 0, _, _, σ => (0, σ)
  | k9 + 1, m1, i2, σ => (if 4 ≤ i2 then (m1, σ) else (if ((f_PT_start (i2).toNatClampNeg σ) (iP (i2).toNatClampNeg) 6) = 0 then (lp_MA_start_31  k9 m1 (i2 + 1) (f_PT_start (i2).toNatClampNeg σ)) else (lp_MA_start_31  k9 (f_SM_mix m1 ((f_PT_start (i2).toNatClampNeg σ) (iP (i2).toNatClampNeg) 4)) (i2 + 1) (f_PT_start (i2).toNatClampNeg σ))))
set_option maxHeartbeats 4000000 in
set_option maxRecDepth 100000 in
theorem lc_MA_start_31  {p9 : Program} {e : Env} {s : State} {m : MethodId} {args : Array Value} {below : List Frame} {meth : Method} {c : Code} {A : Nat → Prop} {Q : State → Prop} (X : Cx p9 s m args meth c D (tyL cA) A cX2_start 3 yX2_start.cls) : ∀ (k9 : Nat) (m1 : Int32) (i2 : Int32) (σ : St), (hI : Ic σ) → (hi : 0 ≤ i2.toInt ∧ i2.toInt ≤ 4) → (4 - i2.toInt < (k9 : Int)) → (∀ (pc : Nat) (lv : List (Nat × Value)), decode cX2_start pc = .ok (.ireturn, 1) → Vz p9 l e (Rz 3) s m args below meth c D A 3 rh (rcW rh cA) NW 0 0 Q pc lv [.int (lp_MA_start_31  k9 m1 i2 σ).1] (lp_MA_start_31  k9 m1 i2 σ).2) → Vz p9 l e (Rz 3) s m args below meth c D A 3 rh (rcW rh cA) NW 0 0 Q 31 [(0, .ref (rh iMA)), (1, .int m1), (2, .int i2)] [] σ := by
  intro k9
  induction k9 with
  | zero =>
    intro m1 i2 σ hI hi hmu hend
    exact absurd hmu (by omega)
  | succ k9 ih =>
    intro m1 i2 σ hI hi hmu hend
    refine v_iload_n X 2 dX2_start_31 rfl rfl ?_
    refine v_iconst (v := 4) X dX2_start_32 (by decide) ?_
    refine v_icmp_ge X 81 dX2_start_33 (by decide) (fun h33 => ?_) (fun h33 => ?_)
    ·
      refine v_iload_n X 1 dX2_start_81 rfl rfl ?_
      have e9 : lp_MA_start_31  (k9 + 1) m1 i2 σ = (m1, σ) := by simp only [lp_MA_start_31, if_pos h33]
      exact v_endI hend dX2_start_82 (by rw [e9]) (by rw [e9])
    ·
      refine v_aload_n X 0 dX2_start_36 rfl rfl ?_
      refine v_getR (j := iAP) (i := iMA) (k := 2) X (lt_MA ) (sh_MA ) rfl in_MA (by decide) wf_MA_21 rfl (fun _ => rfl) dX2_start_37 ?_
      refine v_iload_n X 2 dX2_start_40 rfl rfl ?_
      have hv41 : vp_in i2 4 := (vin_mk hi.1 (nle (by decide) h33))
      refine v_aald (i := iAP) (t0 := 1) (g := iP) X (lt_APT ) (sh_APT ) rfl hv41 dX2_start_41 ?_
      refine v_aload_n X 0 dX2_start_42 rfl rfl ?_
      refine v_getR (j := iWO) (i := iMA) (k := 1) X (lt_MA ) (sh_MA ) rfl in_MA (by decide) wf_MA_15 rfl (fun _ => rfl) dX2_start_43 ?_
      refine v_callV_CV (rest := []) X [.ref (rh iWO)] (c_PT_start (vin_lt hv41) σ hI) mf_PT_start wi_PT_start wl_PT_start (lt_PT (vin_lt hv41)) (sh_PT (vin_lt hv41)) rfl wm_MA_55 rfl ⟨by decide, by decide⟩ (Nat.le_of_ble_eq_true rfl) ⟨by decide, by decide⟩ dX2_start_46 ?_
      generalize hg46 : (f_PT_start (i2).toNatClampNeg σ) = g46
      have hI46 : Ic g46 := by rw [← hg46]; exact (I_PT_start (i2).toNatClampNeg hI)
      refine v_aload_n X 0 dX2_start_49 rfl rfl ?_
      refine v_getR (j := iAP) (i := iMA) (k := 2) X (lt_MA ) (sh_MA ) rfl in_MA (by decide) wf_MA_21 rfl (fun _ => rfl) dX2_start_50 ?_
      refine v_iload_n X 2 dX2_start_53 rfl rfl ?_
      have hv54 : vp_in i2 4 := (vin_mk hi.1 (nle (by decide) h33))
      refine v_aald (i := iAP) (t0 := 1) (g := iP) X (lt_APT ) (sh_APT ) rfl hv54 dX2_start_54 ?_
      refine v_getI (i := (iP (i2).toNatClampNeg)) (k := 6) X (lt_PT (vin_lt hv54)) (sh_PT (vin_lt hv54)) rfl in_PT (by decide) wf_MA_59 rfl (fun _ => rfl) dX2_start_55 ?_
      refine v_if_eq X 75 dX2_start_58 (by decide) (fun h58 => ?_) (fun h58 => ?_)
      ·
        refine v_iinc (v := (i2 + 1)) (lv' := [(2, .int (i2 + 1)), (0, .ref (rh iMA)), (1, .int m1)]) X 2 dX2_start_75 rfl rfl (by decide) rfl ?_
        refine v_goto (tgt := 31) X dX2_start_78 (by decide) ?_
        have e9 : lp_MA_start_31  (k9 + 1) m1 i2 σ = lp_MA_start_31  k9 m1 (i2 + 1) g46 := by subst hg46; simp only [lp_MA_start_31, if_neg h33, if_pos h58]
        rw [e9] at hend
        refine v_lv (lv' := [(0, .ref (rh iMA)), (1, .int m1), (2, .int (i2 + 1))]) [1, 2, 0] rfl ?_
        exact ih m1 (i2 + 1) g46 hI46 ⟨by have u9 := i_succ h33; omega, by have u9 := i_succ h33; have u8 := h33; rw [ile] at u8; have z : (4 : Int32).toInt = 4 := (by decide); omega⟩ (by have h8 := i_succ h33; omega) hend
      ·
        refine v_iload_n X 1 dX2_start_61 rfl rfl ?_
        refine v_aload_n X 0 dX2_start_62 rfl rfl ?_
        refine v_getR (j := iAP) (i := iMA) (k := 2) X (lt_MA ) (sh_MA ) rfl in_MA (by decide) wf_MA_21 rfl (fun _ => rfl) dX2_start_63 ?_
        refine v_iload_n X 2 dX2_start_66 rfl rfl ?_
        have hv67 : vp_in i2 4 := (vin_mk hi.1 (nle (by decide) h33))
        refine v_aald (i := iAP) (t0 := 1) (g := iP) X (lt_APT ) (sh_APT ) rfl hv67 dX2_start_67 ?_
        refine v_getI (i := (iP (i2).toNatClampNeg)) (k := 4) X (lt_PT (vin_lt hv67)) (sh_PT (vin_lt hv67)) rfl in_PT (by decide) wf_MA_63 rfl (fun _ => rfl) dX2_start_68 ?_
        refine v_callSN_CI (rest := []) X [.int m1, .int (g46 (iP (i2).toNatClampNeg) 4)] (c_SM_mix m1 (g46 (iP (i2).toNatClampNeg) 4) g46 ) mf_SM_mix ws_SM_mix wn_MA_66 rfl ⟨by decide, by decide⟩ (Nat.le_of_ble_eq_true rfl) ⟨by decide, by decide⟩ dX2_start_71 ?_
        refine v_istore_n (lv' := [(1, .int (f_SM_mix m1 (g46 (iP (i2).toNatClampNeg) 4))), (0, .ref (rh iMA)), (2, .int i2)]) X dX2_start_74 rfl (by decide) rfl ?_
        refine v_iinc (v := (i2 + 1)) (lv' := [(2, .int (i2 + 1)), (1, .int (f_SM_mix m1 (g46 (iP (i2).toNatClampNeg) 4))), (0, .ref (rh iMA))]) X 2 dX2_start_75 rfl rfl (by decide) rfl ?_
        refine v_goto (tgt := 31) X dX2_start_78 (by decide) ?_
        have e9 : lp_MA_start_31  (k9 + 1) m1 i2 σ = lp_MA_start_31  k9 (f_SM_mix m1 (g46 (iP (i2).toNatClampNeg) 4)) (i2 + 1) g46 := by subst hg46; simp only [lp_MA_start_31, if_neg h33, if_neg h58]
        rw [e9] at hend
        refine v_lv (lv' := [(0, .ref (rh iMA)), (1, .int (f_SM_mix m1 (g46 (iP (i2).toNatClampNeg) 4))), (2, .int (i2 + 1))]) [2, 1, 0] rfl ?_
        exact ih (f_SM_mix m1 (g46 (iP (i2).toNatClampNeg) 4)) (i2 + 1) g46 hI46 ⟨by have u9 := i_succ h33; omega, by have u9 := i_succ h33; have u8 := h33; rw [ile] at u8; have z : (4 : Int32).toInt = 4 := (by decide); omega⟩ (by have h8 := i_succ h33; omega) hend
def lp_MA_start_7  : Nat → Int32 → St → Int32 × St
  | 0, _, σ => (0, σ)
  | k9 + 1, i1, σ => (if 4 ≤ i1 then (lp_MA_start_31  5 0 0 σ) else (lp_MA_start_7  k9 (i1 + 1) (f_CH_clear (i1).toNatClampNeg σ)))
set_option maxHeartbeats 4000000 in
set_option maxRecDepth 100000 in
theorem lc_MA_start_7  {p9 : Program} {e : Env} {s : State} {m : MethodId} {args : Array Value} {below : List Frame} {meth : Method} {c : Code} {A : Nat → Prop} {Q : State → Prop} (X : Cx p9 s m args meth c D (tyL cA) A cX2_start 3 yX2_start.cls) : ∀ (k9 : Nat) (i1 : Int32) (σ : St), (hI : Ic σ) → (hi : 0 ≤ i1.toInt ∧ i1.toInt ≤ 4) → (4 - i1.toInt < (k9 : Int)) → (∀ (pc : Nat) (lv : List (Nat × Value)), decode cX2_start pc = .ok (.ireturn, 1) → Vz p9 l e (Rz 3) s m args below meth c D A 3 rh (rcW rh cA) NW 0 0 Q pc lv [.int (lp_MA_start_7  k9 i1 σ).1] (lp_MA_start_7  k9 i1 σ).2) → Vz p9 l e (Rz 3) s m args below meth c D A 3 rh (rcW rh cA) NW 0 0 Q 7 [(0, .ref (rh iMA)), (1, .int i1)] [] σ := by
  intro k9
  induction k9 with
  | zero =>
    intro i1 σ hI hi hmu hend
    exact absurd hmu (by omega)
  | succ k9 ih =>
    intro i1 σ hI hi hmu hend
    refine v_iload_n X 1 dX2_start_7 rfl rfl ?_
    refine v_iconst (v := 4) X dX2_start_8 (by decide) ?_
    refine v_icmp_ge X 27 dX2_start_9 (by decide) (fun h9 => ?_) (fun h9 => ?_)
    ·
      refine v_iconst (v := 0) X dX2_start_27 (by decide) ?_
      refine v_istore_n (lv' := [(1, .int 0), (0, .ref (rh iMA))]) X dX2_start_28 rfl (by decide) rfl ?_
      refine v_iconst (v := 0) X dX2_start_29 (by decide) ?_
      refine v_istore_n (lv' := [(2, .int 0), (1, .int 0), (0, .ref (rh iMA))]) X dX2_start_30 rfl (by decide) rfl ?_
      have e9 : lp_MA_start_7  (k9 + 1) i1 σ = lp_MA_start_31  5 0 0 σ := by simp only [lp_MA_start_7, if_pos h9]
      rw [e9] at hend
      refine v_lv (lv' := [(0, .ref (rh iMA)), (1, .int 0), (2, .int 0)]) [2, 1, 0] rfl ?_
      exact lc_MA_start_31   X 5 0 0 σ hI ⟨by decide, by decide⟩ (by decide) hend
    ·
      refine v_aload_n X 0 dX2_start_12 rfl rfl ?_
      refine v_getR (j := iAC) (i := iMA) (k := 3) X (lt_MA ) (sh_MA ) rfl in_MA (by decide) wf_MA_30 rfl (fun _ => rfl) dX2_start_13 ?_
      refine v_iload_n X 1 dX2_start_16 rfl rfl ?_
      have hv17 : vp_in i1 4 := (vin_mk hi.1 (nle (by decide) h9))
      refine v_aald (i := iAC) (t0 := 2) (g := iC) X (lt_ACH ) (sh_ACH ) rfl hv17 dX2_start_17 ?_
      refine v_callV_CV (rest := []) X [] (c_CH_clear (vin_lt hv17) σ ) mf_CH_clear wi_CH_clear wl_CH_clear (lt_CH (vin_lt hv17)) (sh_CH (vin_lt hv17)) rfl wm_MA_52 rfl ⟨by decide, by decide⟩ (Nat.le_of_ble_eq_true rfl) ⟨by decide, by decide⟩ dX2_start_18 ?_
      generalize hg18 : (f_CH_clear (i1).toNatClampNeg σ) = g18
      have hI18 : Ic g18 := by rw [← hg18]; exact (I_CH_clear (i1).toNatClampNeg hI)
      refine v_iinc (v := (i1 + 1)) (lv' := [(1, .int (i1 + 1)), (0, .ref (rh iMA))]) X 1 dX2_start_21 rfl rfl (by decide) rfl ?_
      refine v_goto (tgt := 7) X dX2_start_24 (by decide) ?_
      have e9 : lp_MA_start_7  (k9 + 1) i1 σ = lp_MA_start_7  k9 (i1 + 1) g18 := by subst hg18; simp only [lp_MA_start_7, if_neg h9]
      rw [e9] at hend
      refine v_lv (lv' := [(0, .ref (rh iMA)), (1, .int (i1 + 1))]) [1, 0] rfl ?_
      exact ih (i1 + 1) g18 hI18 ⟨by have u9 := i_succ h9; omega, by have u9 := i_succ h9; have u8 := h9; rw [ile] at u8; have z : (4 : Int32).toInt = 4 := (by decide); omega⟩ (by have u8 := i_succ h9; omega) hend
def f_MA_start (σ : St) : Int32 × St :=
  (lp_MA_start_7  5 0 (up σ iMA 5 0))
set_option maxHeartbeats 4000000 in
set_option maxRecDepth 100000 in
theorem c_MA_start  (σ : St) (hI : Ic σ) : CI l D (tyL cA) rh (rcW rh cA) NW yX2_start cX2_start 3 .int 3 [.ref (rh iMA)] σ (f_MA_start σ).1 (f_MA_start σ).2 := by
  refine CI.of rfl (Nat.le_of_ble_eq_true rfl) rfl ?_
  intro p9 e s m args below meth c A Q X hend
  refine v_lv (lv' := [(0, .ref (rh iMA))]) [0] rfl ?_
  refine v_aload_n X 0 dX2_start_0 rfl rfl ?_
  refine v_iconst (v := 0) X dX2_start_1 (by decide) ?_
  refine v_put (i := iMA) (k := 5) (x := 0) (ty := .int) X (lt_MA ) (sh_MA ) rfl in_MA (by decide) tyX2 tyX2_ok nX2 wf_MA_42 rfl rfl rfl rfl rfl (fun _ => Nat.le_of_ble_eq_true rfl) (fun _ _ => rfl) dX2_start_2 ?_
  generalize hg2 : (up σ iMA 5 0) = g2
  have hI2 : Ic g2 := by rw [← hg2]; exact (Ic.upMA hI)
  refine v_iconst (v := 0) X dX2_start_5 (by decide) ?_
  refine v_istore_n (lv' := [(1, .int 0), (0, .ref (rh iMA))]) X dX2_start_6 rfl (by decide) rfl ?_
  have e9 : f_MA_start σ = lp_MA_start_7  5 0 g2 := by subst hg2; simp only [f_MA_start]
  rw [e9] at hend
  refine v_lv (lv' := [(0, .ref (rh iMA)), (1, .int 0)]) [1, 0] rfl ?_
  exact lc_MA_start_7   X 5 0 g2 hI2 ⟨by decide, by decide⟩ (by decide) hend
theorem Il_MA_start2 : ∀ (k : Nat) (m i : Int32) (σ : St), Ic σ → Ic (lp_MA_start_31 k m i σ).2 := by
  intro k
  induction k with
  | zero => intro m i σ h; exact h
  | succ k ih =>
    intro m i σ h
    simp only [lp_MA_start_31]
    exact ic_ite2 (fun _ => h) (fun _ => ic_ite2 (fun _ => ih _ _ _ (I_PT_start _ h)) (fun _ => ih _ _ _ (I_PT_start _ h)))
theorem Il_MA_start1 : ∀ (k : Nat) (i : Int32) (σ : St), Ic σ → Ic (lp_MA_start_7 k i σ).2 := by
  intro k
  induction k with
  | zero => intro i σ h; exact h
  | succ k ih =>
    intro i σ h
    simp only [lp_MA_start_7]
    exact ic_ite2 (fun _ => Il_MA_start2 _ _ _ _ h) (fun _ => ih _ _ (I_CH_clear _ h))
theorem I_MA_start {σ : St} (hI : Ic σ) : Ic (f_MA_start σ).2 := by
  unfold f_MA_start
  exact Il_MA_start1 _ _ _ (Ic.upMA hI)
def f_MA_fetchFault (p : Nat) (σ : St) : Int32 :=
  (if ((σ (iP p) 5) &&& 3) = 0 then ((if (f_PT_holds p (σ (iP p) 5) σ) = 0 then 3 else 0) : Int32) else 2)
set_option maxHeartbeats 4000000 in
set_option maxRecDepth 100000 in
theorem c_MA_fetchFault {p : Nat} (hp : p < 4) (σ : St) : CI l D (tyL cA) rh (rcW rh cA) NW yX2_fetchFault cX2_fetchFault 1 .int 2 [.ref (rh (iP p))] σ (f_MA_fetchFault p σ) σ := by
  refine CI.of rfl (Nat.le_of_ble_eq_true rfl) rfl ?_
  intro p9 e s m args below meth c A Q X hend
  refine v_lv (lv' := [(0, .ref (rh (iP p)))]) [0] rfl ?_
  refine v_aload_n X 0 dX2_fetchFault_0 rfl rfl ?_
  refine v_getI (i := (iP p)) (k := 5) X (lt_PT hp) (sh_PT hp) rfl in_PT (by decide) wf_MA_73 rfl (fun _ => rfl) dX2_fetchFault_1 ?_
  refine v_iconst (v := 3) X dX2_fetchFault_4 (by decide) ?_
  refine v_iand X dX2_fetchFault_5 ?_
  refine v_if_eq X 11 dX2_fetchFault_6 (by decide) (fun h6 => ?_) (fun h6 => ?_)
  ·
    refine v_aload_n X 0 dX2_fetchFault_11 rfl rfl ?_
    refine v_aload_n X 0 dX2_fetchFault_12 rfl rfl ?_
    refine v_getI (i := (iP p)) (k := 5) X (lt_PT hp) (sh_PT hp) rfl in_PT (by decide) wf_MA_73 rfl (fun _ => rfl) dX2_fetchFault_13 ?_
    refine v_callV_CI (rest := []) X [.int (σ (iP p) 5)] (c_PT_holds hp (σ (iP p) 5) σ ) mf_PT_holds wi_PT_holds wl_PT_holds (lt_PT hp) (sh_PT hp) rfl wm_MA_91 rfl ⟨by decide, by decide⟩ (Nat.le_of_ble_eq_true rfl) ⟨by decide, by decide⟩ dX2_fetchFault_16 ?_
    refine v_suff (pc2 := 27) (lv2 := [(0, .ref (rh (iP p)))]) (st2 := [.int ((if (f_PT_holds p (σ (iP p) 5) σ) = 0 then 3 else 0) : Int32)]) (σ2 := σ) ?_ (fun J19 => ?_)
    rotate_left
    ·
      refine v_if_eq X 26 dX2_fetchFault_19 (by decide) (fun h19 => ?_) (fun h19 => ?_)
      ·
        refine v_iconst (v := 3) X dX2_fetchFault_26 (by decide) ?_
        have e9 : (((if (f_PT_holds p (σ (iP p) 5) σ) = 0 then 3 else 0) : Int32) : Int32) = 3 := by simp only [if_pos h19]
        rw [e9] at J19
        exact J19
      ·
        refine v_iconst (v := 0) X dX2_fetchFault_22 (by decide) ?_
        refine v_goto (tgt := 27) X dX2_fetchFault_23 (by decide) ?_
        have e9 : (((if (f_PT_holds p (σ (iP p) 5) σ) = 0 then 3 else 0) : Int32) : Int32) = 0 := by simp only [if_neg h19]
        rw [e9] at J19
        exact J19
    have e9 : f_MA_fetchFault p σ = ((if (f_PT_holds p (σ (iP p) 5) σ) = 0 then 3 else 0) : Int32) := by simp only [f_MA_fetchFault, if_pos h6]
    exact v_endI hend dX2_fetchFault_27 e9 rfl
  ·
    refine v_iconst (v := 2) X dX2_fetchFault_9 (by decide) ?_
    have e9 : f_MA_fetchFault p σ = 2 := by simp only [f_MA_fetchFault, if_neg h6]
    exact v_endI hend dX2_fetchFault_10 e9 rfl
def f_MA_channelAt (xa : Int32) : Int32 :=
  ((xa - 4096) / 4)
set_option maxHeartbeats 4000000 in
set_option maxRecDepth 100000 in
theorem c_MA_channelAt (xa : Int32) (σ : St) : CI l D (tyL cA) rh (rcW rh cA) NW yX2_channelAt cX2_channelAt 1 .int 0 [.int xa] σ (f_MA_channelAt xa) σ := by
  refine CI.of rfl (Nat.le_of_ble_eq_true rfl) rfl ?_
  intro p9 e s m args below meth c A Q X hend
  refine v_lv (lv' := [(0, .int xa)]) [0] rfl ?_
  refine v_iload_n X 0 dX2_channelAt_0 rfl rfl ?_
  refine v_sipush (v := 4096) X dX2_channelAt_1 (by decide) ?_
  refine v_isub X dX2_channelAt_4 ?_
  refine v_iconst (v := 4) X dX2_channelAt_5 (by decide) ?_
  refine v_idiv X (by decide) dX2_channelAt_6 ?_
  have e9 : f_MA_channelAt xa = ((xa - 4096) / 4) := by simp only [f_MA_channelAt]
  exact v_endI hend dX2_channelAt_7 e9 rfl
def f_MA_isReadable (xa : Int32) (p : Nat) (σ : St) : Int32 :=
  ((if xa < 0 then 0 else (if 4 ≤ xa then 0 else (if ((ushr (σ (iC (xa).toNatClampNeg) 1) (σ (iP p) 0)) &&& 1) = 1 then 1 else 0))) : Int32)
theorem z_MA_isReadable (xa : Int32) (p : Nat) (σ : St) : (f_MA_isReadable xa p σ) = 0 ∨ (f_MA_isReadable xa p σ) = 1 := by
  unfold f_MA_isReadable
  repeat' first | exact Or.inl rfl | exact Or.inr rfl | apply z_ite | split
set_option maxHeartbeats 4000000 in
set_option maxRecDepth 100000 in
theorem c_MA_isReadable (xa : Int32) {p : Nat} (hp : p < 4) (σ : St) : CI l D (tyL cA) rh (rcW rh cA) NW yX2_isReadable cX2_isReadable 3 .boolean 0 [.ref (rh iMA), .int xa, .ref (rh (iP p))] σ (f_MA_isReadable xa p σ) σ := by
  refine CI.of rfl (Nat.le_of_ble_eq_true rfl) (zN (z_MA_isReadable ..)) ?_
  intro p9 e s m args below meth c A Q X hend
  refine v_lv (lv' := [(0, .ref (rh iMA)), (1, .int xa), (2, .ref (rh (iP p)))]) [0, 1, 2] rfl ?_
  refine v_iload_n X 1 dX2_isReadable_0 rfl rfl ?_
  refine v_suff (pc2 := 34) (lv2 := [(0, .ref (rh iMA)), (1, .int xa), (2, .ref (rh (iP p)))]) (st2 := [.int ((if xa < 0 then 0 else (if 4 ≤ xa then 0 else (if ((ushr (σ (iC (xa).toNatClampNeg) 1) (σ (iP p) 0)) &&& 1) = 1 then 1 else 0))) : Int32)]) (σ2 := σ) ?_ (fun J1 => ?_)
  rotate_left
  ·
    refine v_if_lt X 33 dX2_isReadable_1 (by decide) (fun h1 => ?_) (fun h1 => ?_)
    ·
      refine v_iconst (v := 0) X dX2_isReadable_33 (by decide) ?_
      have e9 : (((if xa < 0 then 0 else (if 4 ≤ xa then 0 else (if ((ushr (σ (iC (xa).toNatClampNeg) 1) (σ (iP p) 0)) &&& 1) = 1 then 1 else 0))) : Int32) : Int32) = 0 := by simp only [if_pos h1]
      rw [e9] at J1
      exact J1
    ·
      refine v_iload_n X 1 dX2_isReadable_4 rfl rfl ?_
      refine v_iconst (v := 4) X dX2_isReadable_5 (by decide) ?_
      refine v_icmp_ge X 33 dX2_isReadable_6 (by decide) (fun h6 => ?_) (fun h6 => ?_)
      ·
        refine v_iconst (v := 0) X dX2_isReadable_33 (by decide) ?_
        have e9 : (((if xa < 0 then 0 else (if 4 ≤ xa then 0 else (if ((ushr (σ (iC (xa).toNatClampNeg) 1) (σ (iP p) 0)) &&& 1) = 1 then 1 else 0))) : Int32) : Int32) = 0 := by simp only [if_neg h1, if_pos h6]
        rw [e9] at J1
        exact J1
      ·
        refine v_aload_n X 0 dX2_isReadable_9 rfl rfl ?_
        refine v_getR (j := iAC) (i := iMA) (k := 3) X (lt_MA ) (sh_MA ) rfl in_MA (by decide) wf_MA_30 rfl (fun _ => rfl) dX2_isReadable_10 ?_
        refine v_iload_n X 1 dX2_isReadable_13 rfl rfl ?_
        have hv14 : vp_in xa 4 := (vin_c 4 (by decide) h1 h6)
        refine v_aald (i := iAC) (t0 := 2) (g := iC) X (lt_ACH ) (sh_ACH ) rfl hv14 dX2_isReadable_14 ?_
        refine v_getI (i := (iC (xa).toNatClampNeg)) (k := 1) X (lt_CH (vin_lt hv14)) (sh_CH (vin_lt hv14)) rfl in_CH (by decide) wf_MA_186 rfl (fun _ => rfl) dX2_isReadable_15 ?_
        refine v_aload_n X 2 dX2_isReadable_18 rfl rfl ?_
        refine v_getI (i := (iP p)) (k := 0) X (lt_PT hp) (sh_PT hp) rfl in_PT (by decide) wf_MA_181 rfl (fun _ => rfl) dX2_isReadable_19 ?_
        refine v_iushr X dX2_isReadable_22 ?_
        refine v_iconst (v := 1) X dX2_isReadable_23 (by decide) ?_
        refine v_iand X dX2_isReadable_24 ?_
        refine v_iconst (v := 1) X dX2_isReadable_25 (by decide) ?_
        refine v_icmp_ne X 33 dX2_isReadable_26 (by decide) (fun h26 => ?_) (fun h26 => ?_)
        ·
          refine v_iconst (v := 0) X dX2_isReadable_33 (by decide) ?_
          have e9 : (((if xa < 0 then 0 else (if 4 ≤ xa then 0 else (if ((ushr (σ (iC (xa).toNatClampNeg) 1) (σ (iP p) 0)) &&& 1) = 1 then 1 else 0))) : Int32) : Int32) = 0 := by simp only [if_neg h1, if_neg h6, if_neg h26]
          rw [e9] at J1
          exact J1
        ·
          refine v_iconst (v := 1) X dX2_isReadable_29 (by decide) ?_
          refine v_goto (tgt := 34) X dX2_isReadable_30 (by decide) ?_
          have e9 : (((if xa < 0 then 0 else (if 4 ≤ xa then 0 else (if ((ushr (σ (iC (xa).toNatClampNeg) 1) (σ (iP p) 0)) &&& 1) = 1 then 1 else 0))) : Int32) : Int32) = 1 := by simp only [if_neg h1, if_neg h6, if_pos h26]
          rw [e9] at J1
          exact J1
  have e9 : f_MA_isReadable xa p σ = ((if xa < 0 then 0 else (if 4 ≤ xa then 0 else (if ((ushr (σ (iC (xa).toNatClampNeg) 1) (σ (iP p) 0)) &&& 1) = 1 then 1 else 0))) : Int32) := by simp only [f_MA_isReadable]
  exact v_endI hend dX2_isReadable_34 e9 rfl
end CLS
theorem rd_in {c : Int32} {p : Nat} {σ : St} (h : ¬ f_MA_isReadable c p σ = 0) : vp_in c 4 := by
  unfold f_MA_isReadable at h
  by_cases h1 : c < 0
  · simp [h1] at h
  · by_cases h2 : (4 : Int32) ≤ c
    · simp [h1, h2] at h
    · exact vin_c 4 (by decide) h1 h2
theorem ff_in {σ : St} {p : Nat} (hI : Ic σ) (hp : p < 4) (h : f_MA_fetchFault p σ = 0) : vp_in ((σ (iP p) 1) + ((σ (iP p) 5) / 4)) 96 := by
  refine hold_in hI hp (fun h1 => ?_)
  unfold f_MA_fetchFault at h
  simp only [h1] at h
  revert h
  split <;> decide
theorem pn_in {σ : St} (hI : Ic σ) : vp_in (f_TT_partitionNow σ) 4 := by
  unfold f_TT_partitionNow
  have h1 := hI.tc
  have h2 := hI.tp (w := (σ iTT 3).toNatClampNeg) (by have h3 := clamp_toInt h1.1; omega)
  exact vin_mk h2.1 h2.2
