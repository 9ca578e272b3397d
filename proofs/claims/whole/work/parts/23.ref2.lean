theorem no_b {x m : Int32} (h : f_MO_no x m = 0) : ¬ x < 0 ∧ x ≤ m := by
  unfold f_MO_no at h
  by_cases h1 : x < 0
  · simp [h1] at h
  · by_cases h2 : x ≤ m
    · exact ⟨h1, h2⟩
    · simp [h1, h2] at h
theorem no_i {x m : Int32} {N : Nat} (hm : m.toInt + 1 = (N : Int)) (h : f_MO_no x m = 0) : vp_in x N := by
  obtain ⟨h1, h2⟩ := no_b h
  rw [ilt, t0i] at h1; rw [ile] at h2
  exact vin_mk (by omega) (by omega)
theorem no3 {x : Int32} (h : f_MO_no x 3 = 0) : vp_in x 4 := no_i (by decide) h
theorem no95 {x : Int32} (h : f_MO_no x 95 = 0) : vp_in x 96 := no_i (by decide) h
theorem r16 {x : Int32} (h : f_MO_no x 16 = 0) (hn : ¬ x = 16) : vp_in x 16 := by
  have h1 : vp_in x 17 := no_i (by decide) h
  obtain ⟨j, hj, rfl⟩ := vp_in_of h1 (by decide)
  have h2 : j ≠ 16 := fun e => hn (by rw [e]; decide)
  exact vp_in_nI (by omega) (by decide)
theorem ifz1 {c : Prop} [Decidable c] {x : Int32} (h : (if c then x else (1 : Int32)) = 0) : c ∧ x = 0 := by
  by_cases hc : c
  · rw [if_pos hc] at h; exact ⟨hc, h⟩
  · rw [if_neg hc] at h; exact absurd h (by decide)
theorem up33 {σ : St} {v : Int32} (h : up σ iMO 33 v iMO 33 = 0) : v = 0 := by
  rw [up_self] at h
  simpa [upd] using h
theorem set_ok {b : Int32} {σ : St} (h : ¬ (f_MO_set b σ).1 = 0) : b = 0 := by
  by_cases hb : b = 0
  · exact hb
  · exfalso
    apply h
    unfold f_MO_set
    rw [if_neg hb, up_self]
    simp [upd]
theorem vwin {σ : St} (hI : Im σ) (h : ¬ σ iMO 26 = 6) : vp_in (σ iMO 26) 6 := by
  have h1 := hI.2.1
  have h2 : (σ iMO 26).toInt ≠ 6 := fun e => h (Int32.toInt_inj.mp (by rw [e]; decide))
  exact vin_mk h1.1 (by omega)
theorem at_in {x : Int32} (h : ¬ f_MO_at x < 0) : vp_in (f_MO_at x) 4 := by
  unfold f_MO_at at h ⊢
  by_cases h1 : x < 4096
  · simp only [if_pos h1] at h
    exact absurd (by decide) h
  · by_cases h2 : (4108 : Int32) < x
    · simp only [if_neg h1, if_pos h2] at h
      exact absurd (by decide) h
    · simp only [if_neg h1, if_neg h2]
      rw [ilt] at h1 h2
      have z1 : (4096 : Int32).toInt = 4096 := by decide
      have z2 : (4108 : Int32).toInt = 4108 := by decide
      obtain ⟨j, hj, rfl⟩ := nI_of (x := x) (nlt0 (by omega))
      rw [nI_toInt hj] at h1 h2
      rw [show (4096 : Int32) = nI 4096 from by decide, pk_sub (by omega), show (4 : Int32) = nI 4 from by decide, pk_div (by omega) (by omega) (by omega)]
      exact vp_in_nI (by omega) (by decide)
theorem ins_in {σ : St} {p a : Int32} (hI : Im σ) (hq : vp_in p 4) (h : ¬ f_MO_inside p a σ = 0) : vp_in ((σ i_from p.toNatClampNeg) + (a / 4)) 96 := by
  unfold f_MO_inside at h
  obtain ⟨g1, g2, g3, g4⟩ := hI.1 _ (vin_lt hq)
  by_cases h1 : a < 0
  · simp [h1] at h
  · by_cases h2 : ((4 * (σ i_size p.toNatClampNeg)) - 4) < a
    · simp [h1, h2] at h
    · obtain ⟨x, hx, ex⟩ := nI_of (nlt0 g1)
      obtain ⟨y, hy, ey⟩ := nI_of (nlt0 g2)
      obtain ⟨z, hz, ez⟩ := nI_of h1
      rw [ex, nI_toInt hx] at g4
      rw [ey, nI_toInt hy] at g3 g4
      rw [ey, ez] at h2
      rw [ex, ez]
      have e4 : (4 : Int32) = nI 4 := by decide
      by_cases hy0 : y = 0
      · subst hy0
        exfalso
        apply h2
        rw [ilt, nI_toInt hz]
        have e : ((4 : Int32) * nI 0 - 4).toInt = -4 := by decide
        omega
      · rw [e4, pk_mul, pk_sub (by omega), nI_ltI (by omega) (by omega)] at h2
        rw [e4, pk_div hz (by omega) (by omega), nI_add]
        exact vp_in_nI (by omega) (by omega)
theorem fi_in {σ : St} {p i : Int32} (hI : Im σ) (hq : vp_in p 4) (h0 : 0 ≤ i.toInt) (h : ¬ (σ i_size p.toNatClampNeg) ≤ i) : vp_in ((σ i_from p.toNatClampNeg) + i) 96 := by
  obtain ⟨g1, g2, g3, g4⟩ := hI.1 _ (vin_lt hq)
  rw [ile] at h
  obtain ⟨x, hx, ex⟩ := nI_of (nlt0 g1)
  obtain ⟨z, hz, ez⟩ := nI_of (nlt0 h0)
  rw [ex, nI_toInt hx] at g4
  rw [ez, nI_toInt hz] at h
  rw [ex, ez, nI_add]
  exact vp_in_nI (by omega) (by decide)
theorem mf_MO_at : MF yX8_at cX8_at 2 (some .int) 1 := ⟨gw_of (by decide +kernel) rfl, gw_of (by decide +kernel) rfl, by decide +kernel, by decide +kernel, by decide +kernel⟩
theorem mf_MO_clear : MF yX8_clear cX8_clear 3 none 1 := ⟨gw_of (by decide +kernel) rfl, gw_of (by decide +kernel) rfl, by decide +kernel, by decide +kernel, by decide +kernel⟩
theorem mf_MO_inside : MF yX8_inside cX8_inside 3 (some .boolean) 2 := ⟨gw_of (by decide +kernel) rfl, gw_of (by decide +kernel) rfl, by decide +kernel, by decide +kernel, by decide +kernel⟩
theorem mf_MO_no : MF yX8_no cX8_no 3 (some .boolean) 2 := ⟨gw_of (by decide +kernel) rfl, gw_of (by decide +kernel) rfl, by decide +kernel, by decide +kernel, by decide +kernel⟩
theorem mf_MO_put : MF yX8_put cX8_put 4 none 3 := ⟨gw_of (by decide +kernel) rfl, gw_of (by decide +kernel) rfl, by decide +kernel, by decide +kernel, by decide +kernel⟩
theorem mf_MO_set : MF yX8_set cX8_set 2 (some .boolean) 1 := ⟨gw_of (by decide +kernel) rfl, gw_of (by decide +kernel) rfl, by decide +kernel, by decide +kernel, by decide +kernel⟩
theorem wf_MO_118 : Cond.fieldLink RX8 118 RX8 "silent" "Z" ∈ gw := gw_of (by decide +kernel) rfl
theorem wf_MO_13 : Cond.fieldLink RX8 13 RX8 "image" "[I" ∈ gw := gw_of (by decide +kernel) rfl
theorem wf_MO_19 : Cond.fieldLink RX8 19 RX8 "from" "[I" ∈ gw := gw_of (by decide +kernel) rfl
theorem wf_MO_25 : Cond.fieldLink RX8 25 RX8 "policy" "[I" ∈ gw := gw_of (by decide +kernel) rfl
theorem wf_MO_31 : Cond.fieldLink RX8 31 RX8 "faults" "[I" ∈ gw := gw_of (by decide +kernel) rfl
theorem wf_MO_34 : Cond.fieldLink RX8 34 RX8 "kind" "[I" ∈ gw := gw_of (by decide +kernel) rfl
theorem wf_MO_37 : Cond.fieldLink RX8 37 RX8 "restarts" "[I" ∈ gw := gw_of (by decide +kernel) rfl
theorem wf_MO_40 : Cond.fieldLink RX8 40 RX8 "begun" "[I" ∈ gw := gw_of (by decide +kernel) rfl
theorem wf_MO_43 : Cond.fieldLink RX8 43 RX8 "measure" "[I" ∈ gw := gw_of (by decide +kernel) rfl
theorem wf_MO_46 : Cond.fieldLink RX8 46 RX8 "ready" "[Z" ∈ gw := gw_of (by decide +kernel) rfl
theorem wf_MO_50 : Cond.fieldLink RX8 50 RX8 "full" "[Z" ∈ gw := gw_of (by decide +kernel) rfl
theorem wf_MO_53 : Cond.fieldLink RX8 53 RX8 "owner" "[I" ∈ gw := gw_of (by decide +kernel) rfl
theorem wf_MO_56 : Cond.fieldLink RX8 56 RX8 "length" "[I" ∈ gw := gw_of (by decide +kernel) rfl
theorem wf_MO_59 : Cond.fieldLink RX8 59 RX8 "source" "[I" ∈ gw := gw_of (by decide +kernel) rfl
theorem wf_MO_62 : Cond.fieldLink RX8 62 RX8 "readers" "[I" ∈ gw := gw_of (by decide +kernel) rfl
theorem wf_MO_65 : Cond.fieldLink RX8 65 RX8 "period" "[I" ∈ gw := gw_of (by decide +kernel) rfl
theorem wf_MO_68 : Cond.fieldLink RX8 68 RX8 "value" "[I" ∈ gw := gw_of (by decide +kernel) rfl
theorem wf_MO_7 : Cond.fieldLink RX8 7 RX8 "memory" "[I" ∈ gw := gw_of (by decide +kernel) rfl
theorem wf_MO_71 : Cond.fieldLink RX8 71 RX8 "hour" "[I" ∈ gw := gw_of (by decide +kernel) rfl
theorem wf_MO_74 : Cond.fieldLink RX8 74 RX8 "holds" "[I" ∈ gw := gw_of (by decide +kernel) rfl
theorem wf_MO_77 : Cond.fieldLink RX8 77 RX8 "seal" "[I" ∈ gw := gw_of (by decide +kernel) rfl
theorem wi_MO_at : Cond.instanceMethod yX8_at ∈ gw := gw_of (by decide +kernel) rfl
theorem wi_MO_clear : Cond.instanceMethod yX8_clear ∈ gw := gw_of (by decide +kernel) rfl
theorem wi_MO_inside : Cond.instanceMethod yX8_inside ∈ gw := gw_of (by decide +kernel) rfl
theorem wi_MO_no : Cond.instanceMethod yX8_no ∈ gw := gw_of (by decide +kernel) rfl
theorem wi_MO_put : Cond.instanceMethod yX8_put ∈ gw := gw_of (by decide +kernel) rfl
theorem wi_MO_set : Cond.instanceMethod yX8_set ∈ gw := gw_of (by decide +kernel) rfl
theorem wl_MO_at : Cond.selects yX8_at.cls yX8_at yX8_at ∈ gw := gw_of (by decide +kernel) rfl
theorem wl_MO_clear : Cond.selects yX8_clear.cls yX8_clear yX8_clear ∈ gw := gw_of (by decide +kernel) rfl
theorem wl_MO_inside : Cond.selects yX8_inside.cls yX8_inside yX8_inside ∈ gw := gw_of (by decide +kernel) rfl
theorem wl_MO_no : Cond.selects yX8_no.cls yX8_no yX8_no ∈ gw := gw_of (by decide +kernel) rfl
theorem wl_MO_put : Cond.selects yX8_put.cls yX8_put yX8_put ∈ gw := gw_of (by decide +kernel) rfl
theorem wl_MO_set : Cond.selects yX8_set.cls yX8_set yX8_set ∈ gw := gw_of (by decide +kernel) rfl
theorem wm_MO_124 : Cond.methodLink RX8 124 yX8_clear ∈ gw := gw_of (by decide +kernel) rfl
theorem wm_MO_137 : Cond.methodLink RX8 137 yX8_at ∈ gw := gw_of (by decide +kernel) rfl
theorem wm_MO_140 : Cond.methodLink RX8 140 yX8_inside ∈ gw := gw_of (by decide +kernel) rfl
theorem wm_MO_143 : Cond.methodLink RX8 143 yX8_put ∈ gw := gw_of (by decide +kernel) rfl
theorem wm_MO_92 : Cond.methodLink RX8 92 yX8_no ∈ gw := gw_of (by decide +kernel) rfl
theorem wm_MO_96 : Cond.methodLink RX8 96 yX8_set ∈ gw := gw_of (by decide +kernel) rfl
section CLS
variable {l : Launch} {D : va_G} {rh : Nat → Nat} {cA : Nat → ClassId}
def f_MO_load (xa : Int32) (xb : Int32) (σ : St) : St :=
  (if (f_MO_set (f_MO_no xa 95) σ).1 = 0 then (f_MO_set (f_MO_no xa 95) σ).2 else (up (f_MO_set (f_MO_no xa 95) σ).2 i_memory (xa).toNatClampNeg xb))
set_option maxHeartbeats 4000000 in
set_option maxRecDepth 100000 in
theorem c_MO_load (xa : Int32) (xb : Int32) (σ : St) (hI : Im σ) : CV l D (tyL cA) rh (rcW rh cA) NW yX8_load cX8_load 3 1 [.ref (rh iMO), .int xa, .int xb] σ (f_MO_load xa xb σ) := by
  refine CV.of rfl (Nat.le_of_ble_eq_true rfl) ?_
  intro p9 e s m args below meth c A Q X hend
  refine v_lv (lv' := [(0, .ref (rh iMO)), (1, .int xa), (2, .int xb)]) [0, 1, 2] rfl ?_
  refine v_aload_n X 0 dX8_load_0 rfl rfl ?_
  refine v_aload_n X 0 dX8_load_1 rfl rfl ?_
  refine v_iload_n X 1 dX8_load_2 rfl rfl ?_
  refine v_bipush (v := 95) X dX8_load_3 (by decide) ?_
  refine v_callV_CI (rest := [.ref (rh iMO)]) X [.int xa, .int 95] (c_MO_no xa 95 σ ) mf_MO_no wi_MO_no wl_MO_no (lt_MO ) (sh_MO ) rfl wm_MO_92 rfl ⟨by decide, by decide⟩ (Nat.le_of_ble_eq_true rfl) ⟨by decide, by decide⟩ dX8_load_5 ?_
  refine v_callV_CI (rest := []) X [.int (f_MO_no xa 95)] (c_MO_set (f_MO_no xa 95) σ ) mf_MO_set wi_MO_set wl_MO_set (lt_MO ) (sh_MO ) rfl wm_MO_96 rfl ⟨by decide, by decide⟩ (Nat.le_of_ble_eq_true rfl) ⟨by decide, by decide⟩ dX8_load_8 ?_
  generalize hg8 : (f_MO_set (f_MO_no xa 95) σ) = g8
  have hI8 : Im g8.2 := by rw [← hg8]; exact (I_MO_set (f_MO_no xa 95) hI)
  refine v_if_eq X 21 dX8_load_11 (by decide) (fun h11 => ?_) (fun h11 => ?_)
  ·
    have e9 : f_MO_load xa xb σ = g8.2 := by subst hg8; simp only [f_MO_load, if_pos h11]
    exact v_endV hend dX8_load_21 e9
  ·
    refine v_aload_n X 0 dX8_load_14 rfl rfl ?_
    refine v_getR (j := i_memory) (i := iMO) (k := 0) X (lt_MO ) (sh_MO ) rfl in_MO (by decide) wf_MO_7 rfl (fun _ => rfl) dX8_load_15 ?_
    refine v_iload_n X 1 dX8_load_18 rfl rfl ?_
    refine v_iload_n X 2 dX8_load_19 rfl rfl ?_
    have hv20 : vp_in xa 96 := (by subst hg8; exact no95 (set_ok h11))
    refine v_iast (i := i_memory) (t0 := 0) X (lt_m_memory ) (sh_m_memory ) rfl hv20 dX8_load_20 ?_
    generalize hg20 : (up g8.2 i_memory (xa).toNatClampNeg xb) = g20
    have hI20 : Im g20 := by rw [← hg20]; exact (Im.upA hI8 (by decide))
    have e9 : f_MO_load xa xb σ = g20 := by subst hg8; subst hg20; simp only [f_MO_load, if_neg h11]
    exact v_endV hend dX8_load_21 e9
theorem I_MO_load (xa : Int32) (xb : Int32) {σ : St} (hI : Im σ) : Im (f_MO_load xa xb σ) := by
  unfold f_MO_load
  exact (im_ite (fun _ => (I_MO_set (f_MO_no xa 95) hI)) (fun _ => (Im.upA (I_MO_set (f_MO_no xa 95) hI) (by decide))))
def f_MO_policy (xa : Int32) (xb : Int32) (σ : St) : St :=
  (if (f_MO_set ((if (f_MO_no xa 3) = 0 then (if (f_MO_no xb 2) = 0 then 0 else 1) else 1) : Int32) σ).1 = 0 then (f_MO_set ((if (f_MO_no xa 3) = 0 then (if (f_MO_no xb 2) = 0 then 0 else 1) else 1) : Int32) σ).2 else (up (f_MO_set ((if (f_MO_no xa 3) = 0 then (if (f_MO_no xb 2) = 0 then 0 else 1) else 1) : Int32) σ).2 i_policy (xa).toNatClampNeg xb))
set_option maxHeartbeats 4000000 in
set_option maxRecDepth 100000 in
theorem c_MO_policy (xa : Int32) (xb : Int32) (σ : St) (hI : Im σ) : CV l D (tyL cA) rh (rcW rh cA) NW yX8_policy cX8_policy 3 1 [.ref (rh iMO), .int xa, .int xb] σ (f_MO_policy xa xb σ) := by
  refine CV.of rfl (Nat.le_of_ble_eq_true rfl) ?_
  intro p9 e s m args below meth c A Q X hend
  refine v_lv (lv' := [(0, .ref (rh iMO)), (1, .int xa), (2, .int xb)]) [0, 1, 2] rfl ?_
  refine v_aload_n X 0 dX8_policy_0 rfl rfl ?_
  refine v_aload_n X 0 dX8_policy_1 rfl rfl ?_
  refine v_iload_n X 1 dX8_policy_2 rfl rfl ?_
  refine v_iconst (v := 3) X dX8_policy_3 (by decide) ?_
  refine v_callV_CI (rest := [.ref (rh iMO)]) X [.int xa, .int 3] (c_MO_no xa 3 σ ) mf_MO_no wi_MO_no wl_MO_no (lt_MO ) (sh_MO ) rfl wm_MO_92 rfl ⟨by decide, by decide⟩ (Nat.le_of_ble_eq_true rfl) ⟨by decide, by decide⟩ dX8_policy_4 ?_
  refine v_suff (pc2 := 24) (lv2 := [(0, .ref (rh iMO)), (1, .int xa), (2, .int xb)]) (st2 := [.int ((if (f_MO_no xa 3) = 0 then (if (f_MO_no xb 2) = 0 then 0 else 1) else 1) : Int32), .ref (rh iMO)]) (σ2 := σ) ?_ (fun J7 => ?_)
  rotate_left
  ·
    refine v_if_ne X 19 dX8_policy_7 (by decide) (fun h7 => ?_) (fun h7 => ?_)
    ·
      refine v_iconst (v := 1) X dX8_policy_19 (by decide) ?_
      refine v_goto (tgt := 24) X dX8_policy_20 (by decide) ?_
      have e9 : (((if (f_MO_no xa 3) = 0 then (if (f_MO_no xb 2) = 0 then 0 else 1) else 1) : Int32) : Int32) = 1 := by simp only [if_neg h7]
      rw [e9] at J7
      exact J7
    ·
      refine v_aload_n X 0 dX8_policy_10 rfl rfl ?_
      refine v_iload_n X 2 dX8_policy_11 rfl rfl ?_
      refine v_iconst (v := 2) X dX8_policy_12 (by decide) ?_
      refine v_callV_CI (rest := [.ref (rh iMO)]) X [.int xb, .int 2] (c_MO_no xb 2 σ ) mf_MO_no wi_MO_no wl_MO_no (lt_MO ) (sh_MO ) rfl wm_MO_92 rfl ⟨by decide, by decide⟩ (Nat.le_of_ble_eq_true rfl) ⟨by decide, by decide⟩ dX8_policy_13 ?_
      refine v_if_eq X 23 dX8_policy_16 (by decide) (fun h16 => ?_) (fun h16 => ?_)
      ·
        refine v_iconst (v := 0) X dX8_policy_23 (by decide) ?_
        have e9 : (((if (f_MO_no xa 3) = 0 then (if (f_MO_no xb 2) = 0 then 0 else 1) else 1) : Int32) : Int32) = 0 := by simp only [if_pos h7, if_pos h16]
        rw [e9] at J7
        exact J7
      ·
        refine v_iconst (v := 1) X dX8_policy_19 (by decide) ?_
        refine v_goto (tgt := 24) X dX8_policy_20 (by decide) ?_
        have e9 : (((if (f_MO_no xa 3) = 0 then (if (f_MO_no xb 2) = 0 then 0 else 1) else 1) : Int32) : Int32) = 1 := by simp only [if_pos h7, if_neg h16]
        rw [e9] at J7
        exact J7
  refine v_callV_CI (rest := []) X [.int ((if (f_MO_no xa 3) = 0 then (if (f_MO_no xb 2) = 0 then 0 else 1) else 1) : Int32)] (c_MO_set ((if (f_MO_no xa 3) = 0 then (if (f_MO_no xb 2) = 0 then 0 else 1) else 1) : Int32) σ ) mf_MO_set wi_MO_set wl_MO_set (lt_MO ) (sh_MO ) rfl wm_MO_96 rfl ⟨by decide, by decide⟩ (Nat.le_of_ble_eq_true rfl) ⟨by decide, by decide⟩ dX8_policy_24 ?_
  generalize hg24 : (f_MO_set ((if (f_MO_no xa 3) = 0 then (if (f_MO_no xb 2) = 0 then 0 else 1) else 1) : Int32) σ) = g24
  have hI24 : Im g24.2 := by rw [← hg24]; exact (I_MO_set ((if (f_MO_no xa 3) = 0 then (if (f_MO_no xb 2) = 0 then 0 else 1) else 1) : Int32) hI)
  refine v_if_eq X 37 dX8_policy_27 (by decide) (fun h27 => ?_) (fun h27 => ?_)
  ·
    have e9 : f_MO_policy xa xb σ = g24.2 := by subst hg24; simp only [f_MO_policy, if_pos h27]
    exact v_endV hend dX8_policy_37 e9
  ·
    refine v_aload_n X 0 dX8_policy_30 rfl rfl ?_
    refine v_getR (j := i_policy) (i := iMO) (k := 5) X (lt_MO ) (sh_MO ) rfl in_MO (by decide) wf_MO_25 rfl (fun _ => rfl) dX8_policy_31 ?_
    refine v_iload_n X 1 dX8_policy_34 rfl rfl ?_
    refine v_iload_n X 2 dX8_policy_35 rfl rfl ?_
    have hv36 : vp_in xa 4 := (by subst hg24; exact no3 (ifz1 (set_ok h27)).1)
    refine v_iast (i := i_policy) (t0 := 0) X (lt_m_policy ) (sh_m_policy ) rfl hv36 dX8_policy_36 ?_
    generalize hg36 : (up g24.2 i_policy (xa).toNatClampNeg xb) = g36
    have hI36 : Im g36 := by rw [← hg36]; exact (Im.upA hI24 (by decide))
    have e9 : f_MO_policy xa xb σ = g36 := by subst hg24; subst hg36; simp only [f_MO_policy, if_neg h27]
    exact v_endV hend dX8_policy_37 e9
theorem I_MO_policy (xa : Int32) (xb : Int32) {σ : St} (hI : Im σ) : Im (f_MO_policy xa xb σ) := by
  unfold f_MO_policy
  exact (im_ite (fun _ => (I_MO_set ((if (f_MO_no xa 3) = 0 then (if (f_MO_no xb 2) = 0 then 0 else 1) else 1) : Int32) hI)) (fun _ => (Im.upA (I_MO_set ((if (f_MO_no xa 3) = 0 then (if (f_MO_no xb 2) = 0 then 0 else 1) else 1) : Int32) hI) (by decide))))
def f_MO_window (xa : Int32) (xb : Int32) (σ : St) : Int32 × St :=
  (if (f_MO_set ((if (f_MO_no xa 3) = 0 then (if xb < 1 then 1 else (if xb ≤ 20 then 0 else 1)) else 1) : Int32) σ).1 = 0 then (0, (f_MO_set ((if (f_MO_no xa 3) = 0 then (if xb < 1 then 1 else (if xb ≤ 20 then 0 else 1)) else 1) : Int32) σ).2) else (if ((f_MO_set ((if (f_MO_no xa 3) = 0 then (if xb < 1 then 1 else (if xb ≤ 20 then 0 else 1)) else 1) : Int32) σ).2 iMO 26) = 6 then (0, (up (f_MO_set ((if (f_MO_no xa 3) = 0 then (if xb < 1 then 1 else (if xb ≤ 20 then 0 else 1)) else 1) : Int32) σ).2 iMO 33 2)) else (((up (up (up (f_MO_set ((if (f_MO_no xa 3) = 0 then (if xb < 1 then 1 else (if xb ≤ 20 then 0 else 1)) else 1) : Int32) σ).2 i_owner (((f_MO_set ((if (f_MO_no xa 3) = 0 then (if xb < 1 then 1 else (if xb ≤ 20 then 0 else 1)) else 1) : Int32) σ).2 iMO 26)).toNatClampNeg xa) i_length (((up (f_MO_set ((if (f_MO_no xa 3) = 0 then (if xb < 1 then 1 else (if xb ≤ 20 then 0 else 1)) else 1) : Int32) σ).2 i_owner (((f_MO_set ((if (f_MO_no xa 3) = 0 then (if xb < 1 then 1 else (if xb ≤ 20 then 0 else 1)) else 1) : Int32) σ).2 iMO 26)).toNatClampNeg xa) iMO 26)).toNatClampNeg xb) iMO 26 (((up (up (f_MO_set ((if (f_MO_no xa 3) = 0 then (if xb < 1 then 1 else (if xb ≤ 20 then 0 else 1)) else 1) : Int32) σ).2 i_owner (((f_MO_set ((if (f_MO_no xa 3) = 0 then (if xb < 1 then 1 else (if xb ≤ 20 then 0 else 1)) else 1) : Int32) σ).2 iMO 26)).toNatClampNeg xa) i_length (((up (f_MO_set ((if (f_MO_no xa 3) = 0 then (if xb < 1 then 1 else (if xb ≤ 20 then 0 else 1)) else 1) : Int32) σ).2 i_owner (((f_MO_set ((if (f_MO_no xa 3) = 0 then (if xb < 1 then 1 else (if xb ≤ 20 then 0 else 1)) else 1) : Int32) σ).2 iMO 26)).toNatClampNeg xa) iMO 26)).toNatClampNeg xb) iMO 26) + 1)) iMO 26), (up (up (up (f_MO_set ((if (f_MO_no xa 3) = 0 then (if xb < 1 then 1 else (if xb ≤ 20 then 0 else 1)) else 1) : Int32) σ).2 i_owner (((f_MO_set ((if (f_MO_no xa 3) = 0 then (if xb < 1 then 1 else (if xb ≤ 20 then 0 else 1)) else 1) : Int32) σ).2 iMO 26)).toNatClampNeg xa) i_length (((up (f_MO_set ((if (f_MO_no xa 3) = 0 then (if xb < 1 then 1 else (if xb ≤ 20 then 0 else 1)) else 1) : Int32) σ).2 i_owner (((f_MO_set ((if (f_MO_no xa 3) = 0 then (if xb < 1 then 1 else (if xb ≤ 20 then 0 else 1)) else 1) : Int32) σ).2 iMO 26)).toNatClampNeg xa) iMO 26)).toNatClampNeg xb) iMO 26 (((up (up (f_MO_set ((if (f_MO_no xa 3) = 0 then (if xb < 1 then 1 else (if xb ≤ 20 then 0 else 1)) else 1) : Int32) σ).2 i_owner (((f_MO_set ((if (f_MO_no xa 3) = 0 then (if xb < 1 then 1 else (if xb ≤ 20 then 0 else 1)) else 1) : Int32) σ).2 iMO 26)).toNatClampNeg xa) i_length (((up (f_MO_set ((if (f_MO_no xa 3) = 0 then (if xb < 1 then 1 else (if xb ≤ 20 then 0 else 1)) else 1) : Int32) σ).2 i_owner (((f_MO_set ((if (f_MO_no xa 3) = 0 then (if xb < 1 then 1 else (if xb ≤ 20 then 0 else 1)) else 1) : Int32) σ).2 iMO 26)).toNatClampNeg xa) iMO 26)).toNatClampNeg xb) iMO 26) + 1)))))
set_option maxHeartbeats 4000000 in
set_option maxRecDepth 100000 in
theorem c_MO_window (xa : Int32) (xb : Int32) (σ : St) (hI : Im σ) : CI l D (tyL cA) rh (rcW rh cA) NW yX8_window cX8_window 3 .int 1 [.ref (rh iMO), .int xa, .int xb] σ (f_MO_window xa xb σ).1 (f_MO_window xa xb σ).2 := by
  refine CI.of rfl (Nat.le_of_ble_eq_true rfl) rfl ?_
  intro p9 e s m args below meth c A Q X hend
  refine v_lv (lv' := [(0, .ref (rh iMO)), (1, .int xa), (2, .int xb)]) [0, 1, 2] rfl ?_
  refine v_aload_n X 0 dX8_window_0 rfl rfl ?_
  refine v_aload_n X 0 dX8_window_1 rfl rfl ?_
  refine v_iload_n X 1 dX8_window_2 rfl rfl ?_
  refine v_iconst (v := 3) X dX8_window_3 (by decide) ?_
  refine v_callV_CI (rest := [.ref (rh iMO)]) X [.int xa, .int 3] (c_MO_no xa 3 σ ) mf_MO_no wi_MO_no wl_MO_no (lt_MO ) (sh_MO ) rfl wm_MO_92 rfl ⟨by decide, by decide⟩ (Nat.le_of_ble_eq_true rfl) ⟨by decide, by decide⟩ dX8_window_4 ?_
  refine v_suff (pc2 := 26) (lv2 := [(0, .ref (rh iMO)), (1, .int xa), (2, .int xb)]) (st2 := [.int ((if (f_MO_no xa 3) = 0 then (if xb < 1 then 1 else (if xb ≤ 20 then 0 else 1)) else 1) : Int32), .ref (rh iMO)]) (σ2 := σ) ?_ (fun J7 => ?_)
  rotate_left
  ·
    refine v_if_ne X 21 dX8_window_7 (by decide) (fun h7 => ?_) (fun h7 => ?_)
    ·
      refine v_iconst (v := 1) X dX8_window_21 (by decide) ?_
      refine v_goto (tgt := 26) X dX8_window_22 (by decide) ?_
      have e9 : (((if (f_MO_no xa 3) = 0 then (if xb < 1 then 1 else (if xb ≤ 20 then 0 else 1)) else 1) : Int32) : Int32) = 1 := by simp only [if_neg h7]
      rw [e9] at J7
      exact J7
    ·
      refine v_iload_n X 2 dX8_window_10 rfl rfl ?_
      refine v_iconst (v := 1) X dX8_window_11 (by decide) ?_
      refine v_icmp_lt X 21 dX8_window_12 (by decide) (fun h12 => ?_) (fun h12 => ?_)
      ·
        refine v_iconst (v := 1) X dX8_window_21 (by decide) ?_
        refine v_goto (tgt := 26) X dX8_window_22 (by decide) ?_
        have e9 : (((if (f_MO_no xa 3) = 0 then (if xb < 1 then 1 else (if xb ≤ 20 then 0 else 1)) else 1) : Int32) : Int32) = 1 := by simp only [if_pos h7, if_pos h12]
        rw [e9] at J7
        exact J7
      ·
        refine v_iload_n X 2 dX8_window_15 rfl rfl ?_
        refine v_bipush (v := 20) X dX8_window_16 (by decide) ?_
        refine v_icmp_le X 25 dX8_window_18 (by decide) (fun h18 => ?_) (fun h18 => ?_)
        ·
          refine v_iconst (v := 0) X dX8_window_25 (by decide) ?_
          have e9 : (((if (f_MO_no xa 3) = 0 then (if xb < 1 then 1 else (if xb ≤ 20 then 0 else 1)) else 1) : Int32) : Int32) = 0 := by simp only [if_pos h7, if_neg h12, if_pos h18]
          rw [e9] at J7
          exact J7
        ·
          refine v_iconst (v := 1) X dX8_window_21 (by decide) ?_
          refine v_goto (tgt := 26) X dX8_window_22 (by decide) ?_
          have e9 : (((if (f_MO_no xa 3) = 0 then (if xb < 1 then 1 else (if xb ≤ 20 then 0 else 1)) else 1) : Int32) : Int32) = 1 := by simp only [if_pos h7, if_neg h12, if_neg h18]
          rw [e9] at J7
          exact J7
  refine v_callV_CI (rest := []) X [.int ((if (f_MO_no xa 3) = 0 then (if xb < 1 then 1 else (if xb ≤ 20 then 0 else 1)) else 1) : Int32)] (c_MO_set ((if (f_MO_no xa 3) = 0 then (if xb < 1 then 1 else (if xb ≤ 20 then 0 else 1)) else 1) : Int32) σ ) mf_MO_set wi_MO_set wl_MO_set (lt_MO ) (sh_MO ) rfl wm_MO_96 rfl ⟨by decide, by decide⟩ (Nat.le_of_ble_eq_true rfl) ⟨by decide, by decide⟩ dX8_window_26 ?_
  generalize hg26 : (f_MO_set ((if (f_MO_no xa 3) = 0 then (if xb < 1 then 1 else (if xb ≤ 20 then 0 else 1)) else 1) : Int32) σ) = g26
  have hI26 : Im g26.2 := by rw [← hg26]; exact (I_MO_set ((if (f_MO_no xa 3) = 0 then (if xb < 1 then 1 else (if xb ≤ 20 then 0 else 1)) else 1) : Int32) hI)
  refine v_if_ne X 34 dX8_window_29 (by decide) (fun h29 => ?_) (fun h29 => ?_)
  ·
    refine v_aload_n X 0 dX8_window_34 rfl rfl ?_
    refine v_getI (i := iMO) (k := 26) X (lt_MO ) (sh_MO ) rfl in_MO (by decide) wf_MO_100 rfl (fun _ => rfl) dX8_window_35 ?_
    refine v_bipush (v := 6) X dX8_window_38 (by decide) ?_
    refine v_icmp_ne X 50 dX8_window_40 (by decide) (fun h40 => ?_) (fun h40 => ?_)
    ·
      refine v_aload_n X 0 dX8_window_50 rfl rfl ?_
      refine v_getR (j := i_owner) (i := iMO) (k := 14) X (lt_MO ) (sh_MO ) rfl in_MO (by decide) wf_MO_53 rfl (fun _ => rfl) dX8_window_51 ?_
      refine v_aload_n X 0 dX8_window_54 rfl rfl ?_
      refine v_getI (i := iMO) (k := 26) X (lt_MO ) (sh_MO ) rfl in_MO (by decide) wf_MO_100 rfl (fun _ => rfl) dX8_window_55 ?_
      refine v_iload_n X 1 dX8_window_58 rfl rfl ?_
      have hv59 : vp_in (g26.2 iMO 26) 6 := (vwin hI26 h40)
      refine v_iast (i := i_owner) (t0 := 0) X (lt_m_owner ) (sh_m_owner ) rfl hv59 dX8_window_59 ?_
      generalize hg59 : (up g26.2 i_owner ((g26.2 iMO 26)).toNatClampNeg xa) = g59
      refine v_aload_n X 0 dX8_window_60 rfl rfl ?_
      refine v_getR (j := i_length) (i := iMO) (k := 15) X (lt_MO ) (sh_MO ) rfl in_MO (by decide) wf_MO_56 rfl (fun _ => rfl) dX8_window_61 ?_
      refine v_aload_n X 0 dX8_window_64 rfl rfl ?_
      refine v_getI (i := iMO) (k := 26) X (lt_MO ) (sh_MO ) rfl in_MO (by decide) wf_MO_100 rfl (fun _ => rfl) dX8_window_65 ?_
      refine v_iload_n X 2 dX8_window_68 rfl rfl ?_
      have hv69 : vp_in (g59 iMO 26) 6 := (by subst hg59; exact (show vp_in (g26.2 iMO 26) 6 from vwin hI26 h40))
      refine v_iast (i := i_length) (t0 := 0) X (lt_m_length ) (sh_m_length ) rfl hv69 dX8_window_69 ?_
      generalize hg69 : (up g59 i_length ((g59 iMO 26)).toNatClampNeg xb) = g69
      refine v_aload_n X 0 dX8_window_70 rfl rfl ?_
      refine v_dup X dX8_window_71 rfl ?_
      refine v_getI (i := iMO) (k := 26) X (lt_MO ) (sh_MO ) rfl in_MO (by decide) wf_MO_100 rfl (fun _ => rfl) dX8_window_72 ?_
      refine v_iconst (v := 1) X dX8_window_75 (by decide) ?_
      refine v_iadd X dX8_window_76 ?_
      refine v_put (i := iMO) (k := 26) (x := ((g69 iMO 26) + 1)) (ty := .int) X (lt_MO ) (sh_MO ) rfl in_MO (by decide) tyX8 tyX8_ok nX8 wf_MO_100 rfl rfl rfl rfl rfl (fun _ => Nat.le_of_ble_eq_true rfl) (fun _ _ => rfl) dX8_window_77 ?_
      generalize hg77 : (up g69 iMO 26 ((g69 iMO 26) + 1)) = g77
      refine v_aload_n X 0 dX8_window_80 rfl rfl ?_
      refine v_getI (i := iMO) (k := 26) X (lt_MO ) (sh_MO ) rfl in_MO (by decide) wf_MO_100 rfl (fun _ => rfl) dX8_window_81 ?_
      have e9 : f_MO_window xa xb σ = ((g77 iMO 26), g77) := by subst hg26; subst hg59; subst hg69; subst hg77; simp only [f_MO_window, if_neg h29, if_neg h40]
      exact v_endI hend dX8_window_84 (by rw [e9]) (by rw [e9])
    ·
      refine v_aload_n X 0 dX8_window_43 rfl rfl ?_
      refine v_iconst (v := 2) X dX8_window_44 (by decide) ?_
      refine v_put (i := iMO) (k := 33) (x := 2) (ty := .int) X (lt_MO ) (sh_MO ) rfl in_MO (by decide) tyX8 tyX8_ok nX8 wf_MO_84 rfl rfl rfl rfl rfl (fun _ => Nat.le_of_ble_eq_true rfl) (fun _ _ => rfl) dX8_window_45 ?_
      generalize hg45 : (up g26.2 iMO 33 2) = g45
      have hI45 : Im g45 := by rw [← hg45]; exact (Im.upMO hI26 (by decide))
      refine v_iconst (v := 0) X dX8_window_48 (by decide) ?_
      have e9 : f_MO_window xa xb σ = (0, g45) := by subst hg26; subst hg45; simp only [f_MO_window, if_neg h29, if_pos h40]
      exact v_endI hend dX8_window_49 (by rw [e9]) (by rw [e9])
  ·
    refine v_iconst (v := 0) X dX8_window_32 (by decide) ?_
    have e9 : f_MO_window xa xb σ = (0, g26.2) := by subst hg26; simp only [f_MO_window, if_pos h29]
    exact v_endI hend dX8_window_33 (by rw [e9]) (by rw [e9])
-- I_MO_window: by hand
def f_MO_channel (xa : Int32) (xb : Int32) (xc : Int32) (xd : Int32) (σ : St) : St :=
  (if (f_MO_set ((if (f_MO_no xa 3) = 0 then (if xb < (-1) then 1 else (if 3 < xb then 1 else (if (f_MO_no xc 15) = 0 then (if xd < 1 then 1 else (if xd ≤ 100 then 0 else 1)) else 1))) else 1) : Int32) σ).1 = 0 then (f_MO_set ((if (f_MO_no xa 3) = 0 then (if xb < (-1) then 1 else (if 3 < xb then 1 else (if (f_MO_no xc 15) = 0 then (if xd < 1 then 1 else (if xd ≤ 100 then 0 else 1)) else 1))) else 1) : Int32) σ).2 else (up (up (up (f_MO_set ((if (f_MO_no xa 3) = 0 then (if xb < (-1) then 1 else (if 3 < xb then 1 else (if (f_MO_no xc 15) = 0 then (if xd < 1 then 1 else (if xd ≤ 100 then 0 else 1)) else 1))) else 1) : Int32) σ).2 i_source (xa).toNatClampNeg xb) i_readers (xa).toNatClampNeg xc) i_period (xa).toNatClampNeg xd))
set_option maxHeartbeats 4000000 in
set_option maxRecDepth 100000 in
theorem c_MO_channel (xa : Int32) (xb : Int32) (xc : Int32) (xd : Int32) (σ : St) (hI : Im σ) : CV l D (tyL cA) rh (rcW rh cA) NW yX8_channel cX8_channel 5 1 [.ref (rh iMO), .int xa, .int xb, .int xc, .int xd] σ (f_MO_channel xa xb xc xd σ) := by
  refine CV.of rfl (Nat.le_of_ble_eq_true rfl) ?_
  intro p9 e s m args below meth c A Q X hend
  refine v_lv (lv' := [(0, .ref (rh iMO)), (1, .int xa), (2, .int xb), (3, .int xc), (4, .int xd)]) [0, 1, 2, 3, 4] rfl ?_
  refine v_aload_n X 0 dX8_channel_0 rfl rfl ?_
  refine v_aload_n X 0 dX8_channel_1 rfl rfl ?_
  refine v_iload_n X 1 dX8_channel_2 rfl rfl ?_
  refine v_iconst (v := 3) X dX8_channel_3 (by decide) ?_
  refine v_callV_CI (rest := [.ref (rh iMO)]) X [.int xa, .int 3] (c_MO_no xa 3 σ ) mf_MO_no wi_MO_no wl_MO_no (lt_MO ) (sh_MO ) rfl wm_MO_92 rfl ⟨by decide, by decide⟩ (Nat.le_of_ble_eq_true rfl) ⟨by decide, by decide⟩ dX8_channel_4 ?_
  refine v_suff (pc2 := 48) (lv2 := [(0, .ref (rh iMO)), (1, .int xa), (2, .int xb), (3, .int xc), (4, .int xd)]) (st2 := [.int ((if (f_MO_no xa 3) = 0 then (if xb < (-1) then 1 else (if 3 < xb then 1 else (if (f_MO_no xc 15) = 0 then (if xd < 1 then 1 else (if xd ≤ 100 then 0 else 1)) else 1))) else 1) : Int32), .ref (rh iMO)]) (σ2 := σ) ?_ (fun J7 => ?_)
  rotate_left
  ·
    refine v_if_ne X 43 dX8_channel_7 (by decide) (fun h7 => ?_) (fun h7 => ?_)
    ·
      refine v_iconst (v := 1) X dX8_channel_43 (by decide) ?_
      refine v_goto (tgt := 48) X dX8_channel_44 (by decide) ?_
      have e9 : (((if (f_MO_no xa 3) = 0 then (if xb < (-1) then 1 else (if 3 < xb then 1 else (if (f_MO_no xc 15) = 0 then (if xd < 1 then 1 else (if xd ≤ 100 then 0 else 1)) else 1))) else 1) : Int32) : Int32) = 1 := by simp only [if_neg h7]
      rw [e9] at J7
      exact J7
    ·
      refine v_iload_n X 2 dX8_channel_10 rfl rfl ?_
      refine v_iconst (v := (-1)) X dX8_channel_11 (by decide) ?_
      refine v_icmp_lt X 43 dX8_channel_12 (by decide) (fun h12 => ?_) (fun h12 => ?_)
      ·
        refine v_iconst (v := 1) X dX8_channel_43 (by decide) ?_
        refine v_goto (tgt := 48) X dX8_channel_44 (by decide) ?_
        have e9 : (((if (f_MO_no xa 3) = 0 then (if xb < (-1) then 1 else (if 3 < xb then 1 else (if (f_MO_no xc 15) = 0 then (if xd < 1 then 1 else (if xd ≤ 100 then 0 else 1)) else 1))) else 1) : Int32) : Int32) = 1 := by simp only [if_pos h7, if_pos h12]
        rw [e9] at J7
        exact J7
      ·
        refine v_iload_n X 2 dX8_channel_15 rfl rfl ?_
        refine v_iconst (v := 3) X dX8_channel_16 (by decide) ?_
        refine v_icmp_gt X 43 dX8_channel_17 (by decide) (fun h17 => ?_) (fun h17 => ?_)
        ·
          refine v_iconst (v := 1) X dX8_channel_43 (by decide) ?_
          refine v_goto (tgt := 48) X dX8_channel_44 (by decide) ?_
          have e9 : (((if (f_MO_no xa 3) = 0 then (if xb < (-1) then 1 else (if 3 < xb then 1 else (if (f_MO_no xc 15) = 0 then (if xd < 1 then 1 else (if xd ≤ 100 then 0 else 1)) else 1))) else 1) : Int32) : Int32) = 1 := by simp only [if_pos h7, if_neg h12, if_pos h17]
          rw [e9] at J7
          exact J7
        ·
          refine v_aload_n X 0 dX8_channel_20 rfl rfl ?_
          refine v_iload_n X 3 dX8_channel_21 rfl rfl ?_
          refine v_bipush (v := 15) X dX8_channel_22 (by decide) ?_
          refine v_callV_CI (rest := [.ref (rh iMO)]) X [.int xc, .int 15] (c_MO_no xc 15 σ ) mf_MO_no wi_MO_no wl_MO_no (lt_MO ) (sh_MO ) rfl wm_MO_92 rfl ⟨by decide, by decide⟩ (Nat.le_of_ble_eq_true rfl) ⟨by decide, by decide⟩ dX8_channel_24 ?_
          refine v_if_ne X 43 dX8_channel_27 (by decide) (fun h27 => ?_) (fun h27 => ?_)
          ·
            refine v_iconst (v := 1) X dX8_channel_43 (by decide) ?_
            refine v_goto (tgt := 48) X dX8_channel_44 (by decide) ?_
            have e9 : (((if (f_MO_no xa 3) = 0 then (if xb < (-1) then 1 else (if 3 < xb then 1 else (if (f_MO_no xc 15) = 0 then (if xd < 1 then 1 else (if xd ≤ 100 then 0 else 1)) else 1))) else 1) : Int32) : Int32) = 1 := by simp only [if_pos h7, if_neg h12, if_neg h17, if_neg h27]
            rw [e9] at J7
            exact J7
          ·
            refine v_iload X 4 dX8_channel_30 rfl ?_
            refine v_iconst (v := 1) X dX8_channel_32 (by decide) ?_
            refine v_icmp_lt X 43 dX8_channel_33 (by decide) (fun h33 => ?_) (fun h33 => ?_)
            ·
              refine v_iconst (v := 1) X dX8_channel_43 (by decide) ?_
              refine v_goto (tgt := 48) X dX8_channel_44 (by decide) ?_
              have e9 : (((if (f_MO_no xa 3) = 0 then (if xb < (-1) then 1 else (if 3 < xb then 1 else (if (f_MO_no xc 15) = 0 then (if xd < 1 then 1 else (if xd ≤ 100 then 0 else 1)) else 1))) else 1) : Int32) : Int32) = 1 := by simp only [if_pos h7, if_neg h12, if_neg h17, if_pos h27, if_pos h33]
              rw [e9] at J7
              exact J7
            ·
              refine v_iload X 4 dX8_channel_36 rfl ?_
              refine v_bipush (v := 100) X dX8_channel_38 (by decide) ?_
              refine v_icmp_le X 47 dX8_channel_40 (by decide) (fun h40 => ?_) (fun h40 => ?_)
              ·
                refine v_iconst (v := 0) X dX8_channel_47 (by decide) ?_
                have e9 : (((if (f_MO_no xa 3) = 0 then (if xb < (-1) then 1 else (if 3 < xb then 1 else (if (f_MO_no xc 15) = 0 then (if xd < 1 then 1 else (if xd ≤ 100 then 0 else 1)) else 1))) else 1) : Int32) : Int32) = 0 := by simp only [if_pos h7, if_neg h12, if_neg h17, if_pos h27, if_neg h33, if_pos h40]
                rw [e9] at J7
                exact J7
              ·
                refine v_iconst (v := 1) X dX8_channel_43 (by decide) ?_
                refine v_goto (tgt := 48) X dX8_channel_44 (by decide) ?_
                have e9 : (((if (f_MO_no xa 3) = 0 then (if xb < (-1) then 1 else (if 3 < xb then 1 else (if (f_MO_no xc 15) = 0 then (if xd < 1 then 1 else (if xd ≤ 100 then 0 else 1)) else 1))) else 1) : Int32) : Int32) = 1 := by simp only [if_pos h7, if_neg h12, if_neg h17, if_pos h27, if_neg h33, if_neg h40]
                rw [e9] at J7
                exact J7
  refine v_callV_CI (rest := []) X [.int ((if (f_MO_no xa 3) = 0 then (if xb < (-1) then 1 else (if 3 < xb then 1 else (if (f_MO_no xc 15) = 0 then (if xd < 1 then 1 else (if xd ≤ 100 then 0 else 1)) else 1))) else 1) : Int32)] (c_MO_set ((if (f_MO_no xa 3) = 0 then (if xb < (-1) then 1 else (if 3 < xb then 1 else (if (f_MO_no xc 15) = 0 then (if xd < 1 then 1 else (if xd ≤ 100 then 0 else 1)) else 1))) else 1) : Int32) σ ) mf_MO_set wi_MO_set wl_MO_set (lt_MO ) (sh_MO ) rfl wm_MO_96 rfl ⟨by decide, by decide⟩ (Nat.le_of_ble_eq_true rfl) ⟨by decide, by decide⟩ dX8_channel_48 ?_
  generalize hg48 : (f_MO_set ((if (f_MO_no xa 3) = 0 then (if xb < (-1) then 1 else (if 3 < xb then 1 else (if (f_MO_no xc 15) = 0 then (if xd < 1 then 1 else (if xd ≤ 100 then 0 else 1)) else 1))) else 1) : Int32) σ) = g48
  have hI48 : Im g48.2 := by rw [← hg48]; exact (I_MO_set ((if (f_MO_no xa 3) = 0 then (if xb < (-1) then 1 else (if 3 < xb then 1 else (if (f_MO_no xc 15) = 0 then (if xd < 1 then 1 else (if xd ≤ 100 then 0 else 1)) else 1))) else 1) : Int32) hI)
  refine v_if_ne X 55 dX8_channel_51 (by decide) (fun h51 => ?_) (fun h51 => ?_)
  ·
    refine v_aload_n X 0 dX8_channel_55 rfl rfl ?_
    refine v_getR (j := i_source) (i := iMO) (k := 16) X (lt_MO ) (sh_MO ) rfl in_MO (by decide) wf_MO_59 rfl (fun _ => rfl) dX8_channel_56 ?_
    refine v_iload_n X 1 dX8_channel_59 rfl rfl ?_
    refine v_iload_n X 2 dX8_channel_60 rfl rfl ?_
    have hv61 : vp_in xa 4 := (by subst hg48; exact no3 (ifz1 (set_ok h51)).1)
    refine v_iast (i := i_source) (t0 := 0) X (lt_m_source ) (sh_m_source ) rfl hv61 dX8_channel_61 ?_
    generalize hg61 : (up g48.2 i_source (xa).toNatClampNeg xb) = g61
    have hI61 : Im g61 := by rw [← hg61]; exact (Im.upA hI48 (by decide))
    refine v_aload_n X 0 dX8_channel_62 rfl rfl ?_
    refine v_getR (j := i_readers) (i := iMO) (k := 17) X (lt_MO ) (sh_MO ) rfl in_MO (by decide) wf_MO_62 rfl (fun _ => rfl) dX8_channel_63 ?_
    refine v_iload_n X 1 dX8_channel_66 rfl rfl ?_
    refine v_iload_n X 3 dX8_channel_67 rfl rfl ?_
    have hv68 : vp_in xa 4 := (by subst hg48; exact no3 (ifz1 (set_ok h51)).1)
    refine v_iast (i := i_readers) (t0 := 0) X (lt_m_readers ) (sh_m_readers ) rfl hv68 dX8_channel_68 ?_
    generalize hg68 : (up g61 i_readers (xa).toNatClampNeg xc) = g68
    have hI68 : Im g68 := by rw [← hg68]; exact (Im.upA hI61 (by decide))
    refine v_aload_n X 0 dX8_channel_69 rfl rfl ?_
    refine v_getR (j := i_period) (i := iMO) (k := 18) X (lt_MO ) (sh_MO ) rfl in_MO (by decide) wf_MO_65 rfl (fun _ => rfl) dX8_channel_70 ?_
    refine v_iload_n X 1 dX8_channel_73 rfl rfl ?_
    refine v_iload X 4 dX8_channel_74 rfl ?_
    have hv76 : vp_in xa 4 := (by subst hg48; exact no3 (ifz1 (set_ok h51)).1)
    refine v_iast (i := i_period) (t0 := 0) X (lt_m_period ) (sh_m_period ) rfl hv76 dX8_channel_76 ?_
    generalize hg76 : (up g68 i_period (xa).toNatClampNeg xd) = g76
    have hI76 : Im g76 := by rw [← hg76]; exact (Im.upA hI68 (by decide))
    have e9 : f_MO_channel xa xb xc xd σ = g76 := by subst hg48; subst hg61; subst hg68; subst hg76; simp only [f_MO_channel, if_neg h51]
    exact v_endV hend dX8_channel_77 e9
  ·
    have e9 : f_MO_channel xa xb xc xd σ = g48.2 := by subst hg48; simp only [f_MO_channel, if_pos h51]
    exact v_endV hend dX8_channel_54 e9
theorem I_MO_channel (xa : Int32) (xb : Int32) (xc : Int32) (xd : Int32) {σ : St} (hI : Im σ) : Im (f_MO_channel xa xb xc xd σ) := by
  unfold f_MO_channel
  exact (im_ite (fun _ => (I_MO_set ((if (f_MO_no xa 3) = 0 then (if xb < (-1) then 1 else (if 3 < xb then 1 else (if (f_MO_no xc 15) = 0 then (if xd < 1 then 1 else (if xd ≤ 100 then 0 else 1)) else 1))) else 1) : Int32) hI)) (fun _ => (Im.upA (Im.upA (Im.upA (I_MO_set ((if (f_MO_no xa 3) = 0 then (if xb < (-1) then 1 else (if 3 < xb then 1 else (if (f_MO_no xc 15) = 0 then (if xd < 1 then 1 else (if xd ≤ 100 then 0 else 1)) else 1))) else 1) : Int32) hI) (by decide)) (by decide)) (by decide))))
def f_MO_register (xa : Int32) (xb : Int32) (σ : St) : Int32 × St :=
  (if ((up σ iMO 33 ((if (f_MO_no xa 3) = 0 then (if (f_MO_no xb 16) = 0 then (if (σ iMO 24) = 0 then 2 else 0) else 1) else 1) : Int32)) iMO 33) = 0 then (((if xb = 16 then ((up σ iMO 33 ((if (f_MO_no xa 3) = 0 then (if (f_MO_no xb 16) = 0 then (if (σ iMO 24) = 0 then 2 else 0) else 1) else 1) : Int32)) i_pc (xa).toNatClampNeg) else ((up σ iMO 33 ((if (f_MO_no xa 3) = 0 then (if (f_MO_no xb 16) = 0 then (if (σ iMO 24) = 0 then 2 else 0) else 1) else 1) : Int32)) i_register (((xa * 16) + xb)).toNatClampNeg)) : Int32), (up σ iMO 33 ((if (f_MO_no xa 3) = 0 then (if (f_MO_no xb 16) = 0 then (if (σ iMO 24) = 0 then 2 else 0) else 1) else 1) : Int32))) else (0, (up σ iMO 33 ((if (f_MO_no xa 3) = 0 then (if (f_MO_no xb 16) = 0 then (if (σ iMO 24) = 0 then 2 else 0) else 1) else 1) : Int32))))
set_option maxHeartbeats 4000000 in
set_option maxRecDepth 100000 in
theorem c_MO_register (xa : Int32) (xb : Int32) (σ : St) (hI : Im σ) : CI l D (tyL cA) rh (rcW rh cA) NW yX8_register cX8_register 3 .int 1 [.ref (rh iMO), .int xa, .int xb] σ (f_MO_register xa xb σ).1 (f_MO_register xa xb σ).2 := by
  refine CI.of rfl (Nat.le_of_ble_eq_true rfl) rfl ?_
  intro p9 e s m args below meth c A Q X hend
  refine v_lv (lv' := [(0, .ref (rh iMO)), (1, .int xa), (2, .int xb)]) [0, 1, 2] rfl ?_
  refine v_aload_n X 0 dX8_register_0 rfl rfl ?_
  refine v_aload_n X 0 dX8_register_1 rfl rfl ?_
  refine v_iload_n X 1 dX8_register_2 rfl rfl ?_
  refine v_iconst (v := 3) X dX8_register_3 (by decide) ?_
  refine v_callV_CI (rest := [.ref (rh iMO)]) X [.int xa, .int 3] (c_MO_no xa 3 σ ) mf_MO_no wi_MO_no wl_MO_no (lt_MO ) (sh_MO ) rfl wm_MO_92 rfl ⟨by decide, by decide⟩ (Nat.le_of_ble_eq_true rfl) ⟨by decide, by decide⟩ dX8_register_4 ?_
  refine v_suff (pc2 := 36) (lv2 := [(0, .ref (rh iMO)), (1, .int xa), (2, .int xb)]) (st2 := [.int ((if (f_MO_no xa 3) = 0 then (if (f_MO_no xb 16) = 0 then (if (σ iMO 24) = 0 then 2 else 0) else 1) else 1) : Int32), .ref (rh iMO)]) (σ2 := σ) ?_ (fun J7 => ?_)
  rotate_left
  ·
    refine v_if_ne X 20 dX8_register_7 (by decide) (fun h7 => ?_) (fun h7 => ?_)
    ·
      refine v_iconst (v := 1) X dX8_register_20 (by decide) ?_
      refine v_goto (tgt := 36) X dX8_register_21 (by decide) ?_
      have e9 : (((if (f_MO_no xa 3) = 0 then (if (f_MO_no xb 16) = 0 then (if (σ iMO 24) = 0 then 2 else 0) else 1) else 1) : Int32) : Int32) = 1 := by simp only [if_neg h7]
      rw [e9] at J7
      exact J7
    ·
      refine v_aload_n X 0 dX8_register_10 rfl rfl ?_
      refine v_iload_n X 2 dX8_register_11 rfl rfl ?_
      refine v_bipush (v := 16) X dX8_register_12 (by decide) ?_
      refine v_callV_CI (rest := [.ref (rh iMO)]) X [.int xb, .int 16] (c_MO_no xb 16 σ ) mf_MO_no wi_MO_no wl_MO_no (lt_MO ) (sh_MO ) rfl wm_MO_92 rfl ⟨by decide, by decide⟩ (Nat.le_of_ble_eq_true rfl) ⟨by decide, by decide⟩ dX8_register_14 ?_
      refine v_if_eq X 24 dX8_register_17 (by decide) (fun h17 => ?_) (fun h17 => ?_)
      ·
        refine v_aload_n X 0 dX8_register_24 rfl rfl ?_
        refine v_getI (i := iMO) (k := 24) X (lt_MO ) (sh_MO ) rfl in_MO (by decide) wf_MO_88 rfl (fun _ => rfl) dX8_register_25 ?_
        refine v_if_ne X 35 dX8_register_28 (by decide) (fun h28 => ?_) (fun h28 => ?_)
        ·
          refine v_iconst (v := 0) X dX8_register_35 (by decide) ?_
          have e9 : (((if (f_MO_no xa 3) = 0 then (if (f_MO_no xb 16) = 0 then (if (σ iMO 24) = 0 then 2 else 0) else 1) else 1) : Int32) : Int32) = 0 := by simp only [if_pos h7, if_pos h17, if_neg h28]
          rw [e9] at J7
          exact J7
        ·
          refine v_iconst (v := 2) X dX8_register_31 (by decide) ?_
          refine v_goto (tgt := 36) X dX8_register_32 (by decide) ?_
          have e9 : (((if (f_MO_no xa 3) = 0 then (if (f_MO_no xb 16) = 0 then (if (σ iMO 24) = 0 then 2 else 0) else 1) else 1) : Int32) : Int32) = 2 := by simp only [if_pos h7, if_pos h17, if_pos h28]
          rw [e9] at J7
          exact J7
      ·
        refine v_iconst (v := 1) X dX8_register_20 (by decide) ?_
        refine v_goto (tgt := 36) X dX8_register_21 (by decide) ?_
        have e9 : (((if (f_MO_no xa 3) = 0 then (if (f_MO_no xb 16) = 0 then (if (σ iMO 24) = 0 then 2 else 0) else 1) else 1) : Int32) : Int32) = 1 := by simp only [if_pos h7, if_neg h17]
        rw [e9] at J7
        exact J7
  refine v_put (i := iMO) (k := 33) (x := ((if (f_MO_no xa 3) = 0 then (if (f_MO_no xb 16) = 0 then (if (σ iMO 24) = 0 then 2 else 0) else 1) else 1) : Int32)) (ty := .int) X (lt_MO ) (sh_MO ) rfl in_MO (by decide) tyX8 tyX8_ok nX8 wf_MO_84 rfl rfl rfl rfl rfl (fun _ => Nat.le_of_ble_eq_true rfl) (fun _ _ => rfl) dX8_register_36 ?_
  generalize hg36 : (up σ iMO 33 ((if (f_MO_no xa 3) = 0 then (if (f_MO_no xb 16) = 0 then (if (σ iMO 24) = 0 then 2 else 0) else 1) else 1) : Int32)) = g36
  have hI36 : Im g36 := by rw [← hg36]; exact (Im.upMO hI (by decide))
  refine v_aload_n X 0 dX8_register_39 rfl rfl ?_
  refine v_getI (i := iMO) (k := 33) X (lt_MO ) (sh_MO ) rfl in_MO (by decide) wf_MO_84 rfl (fun _ => rfl) dX8_register_40 ?_
  refine v_if_eq X 48 dX8_register_43 (by decide) (fun h43 => ?_) (fun h43 => ?_)
  ·
    refine v_iload_n X 2 dX8_register_48 rfl rfl ?_
    refine v_bipush (v := 16) X dX8_register_49 (by decide) ?_
    refine v_suff (pc2 := 74) (lv2 := [(0, .ref (rh iMO)), (1, .int xa), (2, .int xb)]) (st2 := [.int ((if xb = 16 then (g36 i_pc (xa).toNatClampNeg) else (g36 i_register (((xa * 16) + xb)).toNatClampNeg)) : Int32)]) (σ2 := g36) ?_ (fun J51 => ?_)
    rotate_left
    ·
      refine v_icmp_ne X 63 dX8_register_51 (by decide) (fun h51 => ?_) (fun h51 => ?_)
      ·
        refine v_aload_n X 0 dX8_register_63 rfl rfl ?_
        refine v_getR (j := i_register) (i := iMO) (k := 2) X (lt_MO ) (sh_MO ) rfl in_MO (by decide) wf_MO_16 rfl (fun _ => rfl) dX8_register_64 ?_
        refine v_iload_n X 1 dX8_register_67 rfl rfl ?_
        refine v_bipush (v := 16) X dX8_register_68 (by decide) ?_
        refine v_imul X dX8_register_70 ?_
        refine v_iload_n X 2 dX8_register_71 rfl rfl ?_
        refine v_iadd X dX8_register_72 ?_
        have hv73 : vp_in ((xa * 16) + xb) 64 := (by subst hg36; exact vreg (no3 (ifz1 (up33 h43)).1) (r16 (ifz1 (ifz1 (up33 h43)).2).1 h51))
        refine v_iald (i := i_register) (t0 := 0) X (lt_m_register ) (sh_m_register ) rfl hv73 dX8_register_73 ?_
        have e9 : (((if xb = 16 then (g36 i_pc (xa).toNatClampNeg) else (g36 i_register (((xa * 16) + xb)).toNatClampNeg)) : Int32) : Int32) = (g36 i_register (((xa * 16) + xb)).toNatClampNeg) := by simp only [if_neg h51]
        rw [e9] at J51
        exact J51
      ·
        refine v_aload_n X 0 dX8_register_54 rfl rfl ?_
        refine v_getR (j := i_pc) (i := iMO) (k := 6) X (lt_MO ) (sh_MO ) rfl in_MO (by decide) wf_MO_28 rfl (fun _ => rfl) dX8_register_55 ?_
        refine v_iload_n X 1 dX8_register_58 rfl rfl ?_
        have hv59 : vp_in xa 4 := (by subst hg36; exact no3 (ifz1 (up33 h43)).1)
        refine v_iald (i := i_pc) (t0 := 0) X (lt_m_pc ) (sh_m_pc ) rfl hv59 dX8_register_59 ?_
        refine v_goto (tgt := 74) X dX8_register_60 (by decide) ?_
        have e9 : (((if xb = 16 then (g36 i_pc (xa).toNatClampNeg) else (g36 i_register (((xa * 16) + xb)).toNatClampNeg)) : Int32) : Int32) = (g36 i_pc (xa).toNatClampNeg) := by simp only [if_pos h51]
        rw [e9] at J51
        exact J51
    have e9 : f_MO_register xa xb σ = (((if xb = 16 then (g36 i_pc (xa).toNatClampNeg) else (g36 i_register (((xa * 16) + xb)).toNatClampNeg)) : Int32), g36) := by subst hg36; simp only [f_MO_register, if_pos h43]
    exact v_endI hend dX8_register_74 (by rw [e9]) (by rw [e9])
  ·
    refine v_iconst (v := 0) X dX8_register_46 (by decide) ?_
    have e9 : f_MO_register xa xb σ = (0, g36) := by subst hg36; simp only [f_MO_register, if_neg h43]
    exact v_endI hend dX8_register_47 (by rw [e9]) (by rw [e9])
theorem I_MO_register (xa : Int32) (xb : Int32) {σ : St} (hI : Im σ) : Im (f_MO_register xa xb σ).2 := by
  unfold f_MO_register
  exact (im_ite2 (fun _ => (Im.upMO hI (by decide))) (fun _ => (Im.upMO hI (by decide))))
def f_MO_memory (xa : Int32) (σ : St) : Int32 × St :=
  (((if ((up σ iMO 33 ((if (f_MO_no xa 95) = 0 then 0 else 1) : Int32)) iMO 33) = 0 then ((up σ iMO 33 ((if (f_MO_no xa 95) = 0 then 0 else 1) : Int32)) i_memory (xa).toNatClampNeg) else 0) : Int32), (up σ iMO 33 ((if (f_MO_no xa 95) = 0 then 0 else 1) : Int32)))
set_option maxHeartbeats 4000000 in
set_option maxRecDepth 100000 in
theorem c_MO_memory (xa : Int32) (σ : St) (hI : Im σ) : CI l D (tyL cA) rh (rcW rh cA) NW yX8_memory cX8_memory 2 .int 1 [.ref (rh iMO), .int xa] σ (f_MO_memory xa σ).1 (f_MO_memory xa σ).2 := by
  refine CI.of rfl (Nat.le_of_ble_eq_true rfl) rfl ?_
  intro p9 e s m args below meth c A Q X hend
  refine v_lv (lv' := [(0, .ref (rh iMO)), (1, .int xa)]) [0, 1] rfl ?_
  refine v_aload_n X 0 dX8_memory_0 rfl rfl ?_
  refine v_aload_n X 0 dX8_memory_1 rfl rfl ?_
  refine v_iload_n X 1 dX8_memory_2 rfl rfl ?_
  refine v_bipush (v := 95) X dX8_memory_3 (by decide) ?_
  refine v_callV_CI (rest := [.ref (rh iMO)]) X [.int xa, .int 95] (c_MO_no xa 95 σ ) mf_MO_no wi_MO_no wl_MO_no (lt_MO ) (sh_MO ) rfl wm_MO_92 rfl ⟨by decide, by decide⟩ (Nat.le_of_ble_eq_true rfl) ⟨by decide, by decide⟩ dX8_memory_5 ?_
  refine v_suff (pc2 := 16) (lv2 := [(0, .ref (rh iMO)), (1, .int xa)]) (st2 := [.int ((if (f_MO_no xa 95) = 0 then 0 else 1) : Int32), .ref (rh iMO)]) (σ2 := σ) ?_ (fun J8 => ?_)
  rotate_left
  ·
    refine v_if_eq X 15 dX8_memory_8 (by decide) (fun h8 => ?_) (fun h8 => ?_)
    ·
      refine v_iconst (v := 0) X dX8_memory_15 (by decide) ?_
      have e9 : (((if (f_MO_no xa 95) = 0 then 0 else 1) : Int32) : Int32) = 0 := by simp only [if_pos h8]
      rw [e9] at J8
      exact J8
    ·
      refine v_iconst (v := 1) X dX8_memory_11 (by decide) ?_
      refine v_goto (tgt := 16) X dX8_memory_12 (by decide) ?_
      have e9 : (((if (f_MO_no xa 95) = 0 then 0 else 1) : Int32) : Int32) = 1 := by simp only [if_neg h8]
      rw [e9] at J8
      exact J8
  refine v_put (i := iMO) (k := 33) (x := ((if (f_MO_no xa 95) = 0 then 0 else 1) : Int32)) (ty := .int) X (lt_MO ) (sh_MO ) rfl in_MO (by decide) tyX8 tyX8_ok nX8 wf_MO_84 rfl rfl rfl rfl rfl (fun _ => Nat.le_of_ble_eq_true rfl) (fun _ _ => rfl) dX8_memory_16 ?_
  generalize hg16 : (up σ iMO 33 ((if (f_MO_no xa 95) = 0 then 0 else 1) : Int32)) = g16
  have hI16 : Im g16 := by rw [← hg16]; exact (Im.upMO hI (by decide))
  refine v_aload_n X 0 dX8_memory_19 rfl rfl ?_
  refine v_getI (i := iMO) (k := 33) X (lt_MO ) (sh_MO ) rfl in_MO (by decide) wf_MO_84 rfl (fun _ => rfl) dX8_memory_20 ?_
  refine v_suff (pc2 := 36) (lv2 := [(0, .ref (rh iMO)), (1, .int xa)]) (st2 := [.int ((if (g16 iMO 33) = 0 then (g16 i_memory (xa).toNatClampNeg) else 0) : Int32)]) (σ2 := g16) ?_ (fun J23 => ?_)
  rotate_left
  ·
    refine v_if_ne X 35 dX8_memory_23 (by decide) (fun h23 => ?_) (fun h23 => ?_)
    ·
      refine v_iconst (v := 0) X dX8_memory_35 (by decide) ?_
      have e9 : (((if (g16 iMO 33) = 0 then (g16 i_memory (xa).toNatClampNeg) else 0) : Int32) : Int32) = 0 := by simp only [if_neg h23]
      rw [e9] at J23
      exact J23
    ·
      refine v_aload_n X 0 dX8_memory_26 rfl rfl ?_
      refine v_getR (j := i_memory) (i := iMO) (k := 0) X (lt_MO ) (sh_MO ) rfl in_MO (by decide) wf_MO_7 rfl (fun _ => rfl) dX8_memory_27 ?_
      refine v_iload_n X 1 dX8_memory_30 rfl rfl ?_
      have hv31 : vp_in xa 96 := (by subst hg16; exact no95 (ifz1 (up33 h23)).1)
      refine v_iald (i := i_memory) (t0 := 0) X (lt_m_memory ) (sh_m_memory ) rfl hv31 dX8_memory_31 ?_
      refine v_goto (tgt := 36) X dX8_memory_32 (by decide) ?_
      have e9 : (((if (g16 iMO 33) = 0 then (g16 i_memory (xa).toNatClampNeg) else 0) : Int32) : Int32) = (g16 i_memory (xa).toNatClampNeg) := by simp only [if_pos h23]
      rw [e9] at J23
      exact J23
  have e9 : f_MO_memory xa σ = (((if (g16 iMO 33) = 0 then (g16 i_memory (xa).toNatClampNeg) else 0) : Int32), g16) := by subst hg16; simp only [f_MO_memory]
  exact v_endI hend dX8_memory_36 (by rw [e9]) (by rw [e9])
theorem I_MO_memory (xa : Int32) {σ : St} (hI : Im σ) : Im (f_MO_memory xa σ).2 := by
  unfold f_MO_memory
  exact (Im.upMO hI (by decide))
def f_MO_told (xa : Int32) (xb : Int32) (σ : St) : Int32 × St :=
  (if ((up σ iMO 33 ((if (f_MO_no xa 3) = 0 then (if (f_MO_no xb 8) = 0 then 0 else 1) else 1) : Int32)) iMO 33) = 0 then (if 6 ≤ xb then (if xb = 0 then (((if ((up σ iMO 33 ((if (f_MO_no xa 3) = 0 then (if (f_MO_no xb 8) = 0 then 0 else 1) else 1) : Int32)) i_ready (xa).toNatClampNeg) = 0 then 0 else 1) : Int32), (up σ iMO 33 ((if (f_MO_no xa 3) = 0 then (if (f_MO_no xb 8) = 0 then 0 else 1) else 1) : Int32))) else (if xb = 1 then (((up σ iMO 33 ((if (f_MO_no xa 3) = 0 then (if (f_MO_no xb 8) = 0 then 0 else 1) else 1) : Int32)) i_faults (xa).toNatClampNeg), (up σ iMO 33 ((if (f_MO_no xa 3) = 0 then (if (f_MO_no xb 8) = 0 then 0 else 1) else 1) : Int32))) else (if xb = 2 then (((up σ iMO 33 ((if (f_MO_no xa 3) = 0 then (if (f_MO_no xb 8) = 0 then 0 else 1) else 1) : Int32)) i_kind (xa).toNatClampNeg), (up σ iMO 33 ((if (f_MO_no xa 3) = 0 then (if (f_MO_no xb 8) = 0 then 0 else 1) else 1) : Int32))) else (if xb = 3 then (((up σ iMO 33 ((if (f_MO_no xa 3) = 0 then (if (f_MO_no xb 8) = 0 then 0 else 1) else 1) : Int32)) i_restarts (xa).toNatClampNeg), (up σ iMO 33 ((if (f_MO_no xa 3) = 0 then (if (f_MO_no xb 8) = 0 then 0 else 1) else 1) : Int32))) else (if xb = 4 then (((up σ iMO 33 ((if (f_MO_no xa 3) = 0 then (if (f_MO_no xb 8) = 0 then 0 else 1) else 1) : Int32)) i_begun (xa).toNatClampNeg), (up σ iMO 33 ((if (f_MO_no xa 3) = 0 then (if (f_MO_no xb 8) = 0 then 0 else 1) else 1) : Int32))) else (if xb = 5 then (((up σ iMO 33 ((if (f_MO_no xa 3) = 0 then (if (f_MO_no xb 8) = 0 then 0 else 1) else 1) : Int32)) i_measure (xa).toNatClampNeg), (up σ iMO 33 ((if (f_MO_no xa 3) = 0 then (if (f_MO_no xb 8) = 0 then 0 else 1) else 1) : Int32))) else (if xb = 6 then (((up σ iMO 33 ((if (f_MO_no xa 3) = 0 then (if (f_MO_no xb 8) = 0 then 0 else 1) else 1) : Int32)) i_policy (xa).toNatClampNeg), (up σ iMO 33 ((if (f_MO_no xa 3) = 0 then (if (f_MO_no xb 8) = 0 then 0 else 1) else 1) : Int32))) else (if xb = 7 then (((up σ iMO 33 ((if (f_MO_no xa 3) = 0 then (if (f_MO_no xb 8) = 0 then 0 else 1) else 1) : Int32)) i_from (xa).toNatClampNeg), (up σ iMO 33 ((if (f_MO_no xa 3) = 0 then (if (f_MO_no xb 8) = 0 then 0 else 1) else 1) : Int32))) else (((up σ iMO 33 ((if (f_MO_no xa 3) = 0 then (if (f_MO_no xb 8) = 0 then 0 else 1) else 1) : Int32)) i_size (xa).toNatClampNeg), (up σ iMO 33 ((if (f_MO_no xa 3) = 0 then (if (f_MO_no xb 8) = 0 then 0 else 1) else 1) : Int32))))))))))) else (if ((up σ iMO 33 ((if (f_MO_no xa 3) = 0 then (if (f_MO_no xb 8) = 0 then 0 else 1) else 1) : Int32)) iMO 24) = 0 then (0, (up σ iMO 33 ((if (f_MO_no xa 3) = 0 then (if (f_MO_no xb 8) = 0 then 0 else 1) else 1) : Int32))) else (if xb = 0 then (((if ((up σ iMO 33 ((if (f_MO_no xa 3) = 0 then (if (f_MO_no xb 8) = 0 then 0 else 1) else 1) : Int32)) i_ready (xa).toNatClampNeg) = 0 then 0 else 1) : Int32), (up σ iMO 33 ((if (f_MO_no xa 3) = 0 then (if (f_MO_no xb 8) = 0 then 0 else 1) else 1) : Int32))) else (if xb = 1 then (((up σ iMO 33 ((if (f_MO_no xa 3) = 0 then (if (f_MO_no xb 8) = 0 then 0 else 1) else 1) : Int32)) i_faults (xa).toNatClampNeg), (up σ iMO 33 ((if (f_MO_no xa 3) = 0 then (if (f_MO_no xb 8) = 0 then 0 else 1) else 1) : Int32))) else (if xb = 2 then (((up σ iMO 33 ((if (f_MO_no xa 3) = 0 then (if (f_MO_no xb 8) = 0 then 0 else 1) else 1) : Int32)) i_kind (xa).toNatClampNeg), (up σ iMO 33 ((if (f_MO_no xa 3) = 0 then (if (f_MO_no xb 8) = 0 then 0 else 1) else 1) : Int32))) else (if xb = 3 then (((up σ iMO 33 ((if (f_MO_no xa 3) = 0 then (if (f_MO_no xb 8) = 0 then 0 else 1) else 1) : Int32)) i_restarts (xa).toNatClampNeg), (up σ iMO 33 ((if (f_MO_no xa 3) = 0 then (if (f_MO_no xb 8) = 0 then 0 else 1) else 1) : Int32))) else (if xb = 4 then (((up σ iMO 33 ((if (f_MO_no xa 3) = 0 then (if (f_MO_no xb 8) = 0 then 0 else 1) else 1) : Int32)) i_begun (xa).toNatClampNeg), (up σ iMO 33 ((if (f_MO_no xa 3) = 0 then (if (f_MO_no xb 8) = 0 then 0 else 1) else 1) : Int32))) else (if xb = 5 then (((up σ iMO 33 ((if (f_MO_no xa 3) = 0 then (if (f_MO_no xb 8) = 0 then 0 else 1) else 1) : Int32)) i_measure (xa).toNatClampNeg), (up σ iMO 33 ((if (f_MO_no xa 3) = 0 then (if (f_MO_no xb 8) = 0 then 0 else 1) else 1) : Int32))) else (if xb = 6 then (((up σ iMO 33 ((if (f_MO_no xa 3) = 0 then (if (f_MO_no xb 8) = 0 then 0 else 1) else 1) : Int32)) i_policy (xa).toNatClampNeg), (up σ iMO 33 ((if (f_MO_no xa 3) = 0 then (if (f_MO_no xb 8) = 0 then 0 else 1) else 1) : Int32))) else (if xb = 7 then (((up σ iMO 33 ((if (f_MO_no xa 3) = 0 then (if (f_MO_no xb 8) = 0 then 0 else 1) else 1) : Int32)) i_from (xa).toNatClampNeg), (up σ iMO 33 ((if (f_MO_no xa 3) = 0 then (if (f_MO_no xb 8) = 0 then 0 else 1) else 1) : Int32))) else (((up σ iMO 33 ((if (f_MO_no xa 3) = 0 then (if (f_MO_no xb 8) = 0 then 0 else 1) else 1) : Int32)) i_size (xa).toNatClampNeg), (up σ iMO 33 ((if (f_MO_no xa 3) = 0 then (if (f_MO_no xb 8) = 0 then 0 else 1) else 1) : Int32))))))))))))) else (0, (up σ iMO 33 ((if (f_MO_no xa 3) = 0 then (if (f_MO_no xb 8) = 0 then 0 else 1) else 1) : Int32))))
set_option maxHeartbeats 4000000 in
set_option maxRecDepth 100000 in
theorem c_MO_told (xa : Int32) (xb : Int32) (σ : St) (hI : Im σ) : CI l D (tyL cA) rh (rcW rh cA) NW yX8_told cX8_told 3 .int 1 [.ref (rh iMO), .int xa, .int xb] σ (f_MO_told xa xb σ).1 (f_MO_told xa xb σ).2 := by
  refine CI.of rfl (Nat.le_of_ble_eq_true rfl) rfl ?_
  intro p9 e s m args below meth c A Q X hend
  refine v_lv (lv' := [(0, .ref (rh iMO)), (1, .int xa), (2, .int xb)]) [0, 1, 2] rfl ?_
  refine v_aload_n X 0 dX8_told_0 rfl rfl ?_
  refine v_aload_n X 0 dX8_told_1 rfl rfl ?_
  refine v_iload_n X 1 dX8_told_2 rfl rfl ?_
  refine v_iconst (v := 3) X dX8_told_3 (by decide) ?_
  refine v_callV_CI (rest := [.ref (rh iMO)]) X [.int xa, .int 3] (c_MO_no xa 3 σ ) mf_MO_no wi_MO_no wl_MO_no (lt_MO ) (sh_MO ) rfl wm_MO_92 rfl ⟨by decide, by decide⟩ (Nat.le_of_ble_eq_true rfl) ⟨by decide, by decide⟩ dX8_told_4 ?_
  refine v_suff (pc2 := 25) (lv2 := [(0, .ref (rh iMO)), (1, .int xa), (2, .int xb)]) (st2 := [.int ((if (f_MO_no xa 3) = 0 then (if (f_MO_no xb 8) = 0 then 0 else 1) else 1) : Int32), .ref (rh iMO)]) (σ2 := σ) ?_ (fun J7 => ?_)
  rotate_left
  ·
    refine v_if_ne X 20 dX8_told_7 (by decide) (fun h7 => ?_) (fun h7 => ?_)
    ·
      refine v_iconst (v := 1) X dX8_told_20 (by decide) ?_
      refine v_goto (tgt := 25) X dX8_told_21 (by decide) ?_
      have e9 : (((if (f_MO_no xa 3) = 0 then (if (f_MO_no xb 8) = 0 then 0 else 1) else 1) : Int32) : Int32) = 1 := by simp only [if_neg h7]
      rw [e9] at J7
      exact J7
    ·
      refine v_aload_n X 0 dX8_told_10 rfl rfl ?_
      refine v_iload_n X 2 dX8_told_11 rfl rfl ?_
      refine v_bipush (v := 8) X dX8_told_12 (by decide) ?_
      refine v_callV_CI (rest := [.ref (rh iMO)]) X [.int xb, .int 8] (c_MO_no xb 8 σ ) mf_MO_no wi_MO_no wl_MO_no (lt_MO ) (sh_MO ) rfl wm_MO_92 rfl ⟨by decide, by decide⟩ (Nat.le_of_ble_eq_true rfl) ⟨by decide, by decide⟩ dX8_told_14 ?_
      refine v_if_eq X 24 dX8_told_17 (by decide) (fun h17 => ?_) (fun h17 => ?_)
      ·
        refine v_iconst (v := 0) X dX8_told_24 (by decide) ?_
        have e9 : (((if (f_MO_no xa 3) = 0 then (if (f_MO_no xb 8) = 0 then 0 else 1) else 1) : Int32) : Int32) = 0 := by simp only [if_pos h7, if_pos h17]
        rw [e9] at J7
        exact J7
      ·
        refine v_iconst (v := 1) X dX8_told_20 (by decide) ?_
        refine v_goto (tgt := 25) X dX8_told_21 (by decide) ?_
        have e9 : (((if (f_MO_no xa 3) = 0 then (if (f_MO_no xb 8) = 0 then 0 else 1) else 1) : Int32) : Int32) = 1 := by simp only [if_pos h7, if_neg h17]
        rw [e9] at J7
        exact J7
  refine v_put (i := iMO) (k := 33) (x := ((if (f_MO_no xa 3) = 0 then (if (f_MO_no xb 8) = 0 then 0 else 1) else 1) : Int32)) (ty := .int) X (lt_MO ) (sh_MO ) rfl in_MO (by decide) tyX8 tyX8_ok nX8 wf_MO_84 rfl rfl rfl rfl rfl (fun _ => Nat.le_of_ble_eq_true rfl) (fun _ _ => rfl) dX8_told_25 ?_
  generalize hg25 : (up σ iMO 33 ((if (f_MO_no xa 3) = 0 then (if (f_MO_no xb 8) = 0 then 0 else 1) else 1) : Int32)) = g25
  have hI25 : Im g25 := by rw [← hg25]; exact (Im.upMO hI (by decide))
  refine v_aload_n X 0 dX8_told_28 rfl rfl ?_
  refine v_getI (i := iMO) (k := 33) X (lt_MO ) (sh_MO ) rfl in_MO (by decide) wf_MO_84 rfl (fun _ => rfl) dX8_told_29 ?_
  refine v_if_ne X 48 dX8_told_32 (by decide) (fun h32 => ?_) (fun h32 => ?_)
  ·
    refine v_iconst (v := 0) X dX8_told_48 (by decide) ?_
    have e9 : f_MO_told xa xb σ = (0, g25) := by subst hg25; simp only [f_MO_told, if_neg h32]
    exact v_endI hend dX8_told_49 (by rw [e9]) (by rw [e9])
  ·
    refine v_iload_n X 2 dX8_told_35 rfl rfl ?_
    refine v_bipush (v := 6) X dX8_told_36 (by decide) ?_
    refine v_icmp_ge X 50 dX8_told_38 (by decide) (fun h38 => ?_) (fun h38 => ?_)
    ·
      refine v_iload_n X 2 dX8_told_50 rfl rfl ?_
      by_cases h51_0 : xb = 0
      ·
        refine v_tswI (off := 45) X 0 96 h51_0 dX8_told_51 (by decide) (by decide) ?_
        refine v_aload_n X 0 dX8_told_96 rfl rfl ?_
        refine v_getR (j := i_ready) (i := iMO) (k := 12) X (lt_MO ) (sh_MO ) rfl in_MO (by decide) wf_MO_46 rfl (fun _ => rfl) dX8_told_97 ?_
        refine v_iload_n X 1 dX8_told_100 rfl rfl ?_
        have hv101 : vp_in xa 4 := (by subst hg25; exact no3 (ifz1 (up33 h32)).1)
        refine v_zald (i := i_ready) (t0 := 5) X (lt_m_ready ) (sh_m_ready ) rfl hv101 dX8_told_101 ?_
        refine v_suff (pc2 := 110) (lv2 := [(0, .ref (rh iMO)), (1, .int xa), (2, .int xb)]) (st2 := [.int ((if (g25 i_ready (xa).toNatClampNeg) = 0 then 0 else 1) : Int32)]) (σ2 := g25) ?_ (fun J102 => ?_)
        rotate_left
        ·
          refine v_if_eq X 109 dX8_told_102 (by decide) (fun h102 => ?_) (fun h102 => ?_)
          ·
            refine v_iconst (v := 0) X dX8_told_109 (by decide) ?_
            have e9 : (((if (g25 i_ready (xa).toNatClampNeg) = 0 then 0 else 1) : Int32) : Int32) = 0 := by simp only [if_pos h102]
            rw [e9] at J102
            exact J102
          ·
            refine v_iconst (v := 1) X dX8_told_105 (by decide) ?_
            refine v_goto (tgt := 110) X dX8_told_106 (by decide) ?_
            have e9 : (((if (g25 i_ready (xa).toNatClampNeg) = 0 then 0 else 1) : Int32) : Int32) = 1 := by simp only [if_neg h102]
            rw [e9] at J102
            exact J102
        have e9 : f_MO_told xa xb σ = (((if (g25 i_ready (xa).toNatClampNeg) = 0 then 0 else 1) : Int32), g25) := by subst hg25; simp only [f_MO_told, if_pos h32, if_pos h38, if_pos h51_0]
        exact v_endI hend dX8_told_110 (by rw [e9]) (by rw [e9])
      by_cases h51_1 : xb = 1
      ·
        refine v_tswI (off := 60) X 1 111 h51_1 dX8_told_51 (by decide) (by decide) ?_
        refine v_aload_n X 0 dX8_told_111 rfl rfl ?_
        refine v_getR (j := i_faults) (i := iMO) (k := 7) X (lt_MO ) (sh_MO ) rfl in_MO (by decide) wf_MO_31 rfl (fun _ => rfl) dX8_told_112 ?_
        refine v_iload_n X 1 dX8_told_115 rfl rfl ?_
        have hv116 : vp_in xa 4 := (by subst hg25; exact no3 (ifz1 (up33 h32)).1)
        refine v_iald (i := i_faults) (t0 := 0) X (lt_m_faults ) (sh_m_faults ) rfl hv116 dX8_told_116 ?_
        have e9 : f_MO_told xa xb σ = ((g25 i_faults (xa).toNatClampNeg), g25) := by subst hg25; simp only [f_MO_told, if_pos h32, if_pos h38, if_neg h51_0, if_pos h51_1]
        exact v_endI hend dX8_told_117 (by rw [e9]) (by rw [e9])
      by_cases h51_2 : xb = 2
      ·
        refine v_tswI (off := 67) X 2 118 h51_2 dX8_told_51 (by decide) (by decide) ?_
        refine v_aload_n X 0 dX8_told_118 rfl rfl ?_
        refine v_getR (j := i_kind) (i := iMO) (k := 8) X (lt_MO ) (sh_MO ) rfl in_MO (by decide) wf_MO_34 rfl (fun _ => rfl) dX8_told_119 ?_
        refine v_iload_n X 1 dX8_told_122 rfl rfl ?_
        have hv123 : vp_in xa 4 := (by subst hg25; exact no3 (ifz1 (up33 h32)).1)
        refine v_iald (i := i_kind) (t0 := 0) X (lt_m_kind ) (sh_m_kind ) rfl hv123 dX8_told_123 ?_
        have e9 : f_MO_told xa xb σ = ((g25 i_kind (xa).toNatClampNeg), g25) := by subst hg25; simp only [f_MO_told, if_pos h32, if_pos h38, if_neg h51_0, if_neg h51_1, if_pos h51_2]
        exact v_endI hend dX8_told_124 (by rw [e9]) (by rw [e9])
      by_cases h51_3 : xb = 3
      ·
        refine v_tswI (off := 74) X 3 125 h51_3 dX8_told_51 (by decide) (by decide) ?_
        refine v_aload_n X 0 dX8_told_125 rfl rfl ?_
        refine v_getR (j := i_restarts) (i := iMO) (k := 9) X (lt_MO ) (sh_MO ) rfl in_MO (by decide) wf_MO_37 rfl (fun _ => rfl) dX8_told_126 ?_
        refine v_iload_n X 1 dX8_told_129 rfl rfl ?_
        have hv130 : vp_in xa 4 := (by subst hg25; exact no3 (ifz1 (up33 h32)).1)
        refine v_iald (i := i_restarts) (t0 := 0) X (lt_m_restarts ) (sh_m_restarts ) rfl hv130 dX8_told_130 ?_
        have e9 : f_MO_told xa xb σ = ((g25 i_restarts (xa).toNatClampNeg), g25) := by subst hg25; simp only [f_MO_told, if_pos h32, if_pos h38, if_neg h51_0, if_neg h51_1, if_neg h51_2, if_pos h51_3]
        exact v_endI hend dX8_told_131 (by rw [e9]) (by rw [e9])
      by_cases h51_4 : xb = 4
      ·
        refine v_tswI (off := 81) X 4 132 h51_4 dX8_told_51 (by decide) (by decide) ?_
        refine v_aload_n X 0 dX8_told_132 rfl rfl ?_
        refine v_getR (j := i_begun) (i := iMO) (k := 10) X (lt_MO ) (sh_MO ) rfl in_MO (by decide) wf_MO_40 rfl (fun _ => rfl) dX8_told_133 ?_
        refine v_iload_n X 1 dX8_told_136 rfl rfl ?_
        have hv137 : vp_in xa 4 := (by subst hg25; exact no3 (ifz1 (up33 h32)).1)
        refine v_iald (i := i_begun) (t0 := 0) X (lt_m_begun ) (sh_m_begun ) rfl hv137 dX8_told_137 ?_
        have e9 : f_MO_told xa xb σ = ((g25 i_begun (xa).toNatClampNeg), g25) := by subst hg25; simp only [f_MO_told, if_pos h32, if_pos h38, if_neg h51_0, if_neg h51_1, if_neg h51_2, if_neg h51_3, if_pos h51_4]
        exact v_endI hend dX8_told_138 (by rw [e9]) (by rw [e9])
      by_cases h51_5 : xb = 5
      ·
        refine v_tswI (off := 88) X 5 139 h51_5 dX8_told_51 (by decide) (by decide) ?_
        refine v_aload_n X 0 dX8_told_139 rfl rfl ?_
        refine v_getR (j := i_measure) (i := iMO) (k := 11) X (lt_MO ) (sh_MO ) rfl in_MO (by decide) wf_MO_43 rfl (fun _ => rfl) dX8_told_140 ?_
        refine v_iload_n X 1 dX8_told_143 rfl rfl ?_
        have hv144 : vp_in xa 4 := (by subst hg25; exact no3 (ifz1 (up33 h32)).1)
        refine v_iald (i := i_measure) (t0 := 0) X (lt_m_measure ) (sh_m_measure ) rfl hv144 dX8_told_144 ?_
        have e9 : f_MO_told xa xb σ = ((g25 i_measure (xa).toNatClampNeg), g25) := by subst hg25; simp only [f_MO_told, if_pos h32, if_pos h38, if_neg h51_0, if_neg h51_1, if_neg h51_2, if_neg h51_3, if_neg h51_4, if_pos h51_5]
        exact v_endI hend dX8_told_145 (by rw [e9]) (by rw [e9])
      by_cases h51_6 : xb = 6
      ·
        refine v_tswI (off := 95) X 6 146 h51_6 dX8_told_51 (by decide) (by decide) ?_
        refine v_aload_n X 0 dX8_told_146 rfl rfl ?_
        refine v_getR (j := i_policy) (i := iMO) (k := 5) X (lt_MO ) (sh_MO ) rfl in_MO (by decide) wf_MO_25 rfl (fun _ => rfl) dX8_told_147 ?_
        refine v_iload_n X 1 dX8_told_150 rfl rfl ?_
        have hv151 : vp_in xa 4 := (by subst hg25; exact no3 (ifz1 (up33 h32)).1)
        refine v_iald (i := i_policy) (t0 := 0) X (lt_m_policy ) (sh_m_policy ) rfl hv151 dX8_told_151 ?_
        have e9 : f_MO_told xa xb σ = ((g25 i_policy (xa).toNatClampNeg), g25) := by subst hg25; simp only [f_MO_told, if_pos h32, if_pos h38, if_neg h51_0, if_neg h51_1, if_neg h51_2, if_neg h51_3, if_neg h51_4, if_neg h51_5, if_pos h51_6]
        exact v_endI hend dX8_told_152 (by rw [e9]) (by rw [e9])
      by_cases h51_7 : xb = 7
      ·
        refine v_tswI (off := 102) X 7 153 h51_7 dX8_told_51 (by decide) (by decide) ?_
        refine v_aload_n X 0 dX8_told_153 rfl rfl ?_
        refine v_getR (j := i_from) (i := iMO) (k := 3) X (lt_MO ) (sh_MO ) rfl in_MO (by decide) wf_MO_19 rfl (fun _ => rfl) dX8_told_154 ?_
        refine v_iload_n X 1 dX8_told_157 rfl rfl ?_
        have hv158 : vp_in xa 4 := (by subst hg25; exact no3 (ifz1 (up33 h32)).1)
        refine v_iald (i := i_from) (t0 := 0) X (lt_m_from ) (sh_m_from ) rfl hv158 dX8_told_158 ?_
        have e9 : f_MO_told xa xb σ = ((g25 i_from (xa).toNatClampNeg), g25) := by subst hg25; simp only [f_MO_told, if_pos h32, if_pos h38, if_neg h51_0, if_neg h51_1, if_neg h51_2, if_neg h51_3, if_neg h51_4, if_neg h51_5, if_neg h51_6, if_pos h51_7]
        exact v_endI hend dX8_told_159 (by rw [e9]) (by rw [e9])
      refine v_tswO X 160 dX8_told_51 (by have g0 := lv_neT (a := 0) h51_0 (by decide); have g1 := lv_neT (a := 1) h51_1 (by decide); have g2 := lv_neT (a := 2) h51_2 (by decide); have g3 := lv_neT (a := 3) h51_3 (by decide); have g4 := lv_neT (a := 4) h51_4 (by decide); have g5 := lv_neT (a := 5) h51_5 (by decide); have g6 := lv_neT (a := 6) h51_6 (by decide); have g7 := lv_neT (a := 7) h51_7 (by decide); omega) (by decide) ?_
      refine v_aload_n X 0 dX8_told_160 rfl rfl ?_
      refine v_getR (j := i_size) (i := iMO) (k := 4) X (lt_MO ) (sh_MO ) rfl in_MO (by decide) wf_MO_22 rfl (fun _ => rfl) dX8_told_161 ?_
      refine v_iload_n X 1 dX8_told_164 rfl rfl ?_
      have hv165 : vp_in xa 4 := (by subst hg25; exact no3 (ifz1 (up33 h32)).1)
      refine v_iald (i := i_size) (t0 := 0) X (lt_m_size ) (sh_m_size ) rfl hv165 dX8_told_165 ?_
      have e9 : f_MO_told xa xb σ = ((g25 i_size (xa).toNatClampNeg), g25) := by subst hg25; simp only [f_MO_told, if_pos h32, if_pos h38, if_neg h51_0, if_neg h51_1, if_neg h51_2, if_neg h51_3, if_neg h51_4, if_neg h51_5, if_neg h51_6, if_neg h51_7]
      exact v_endI hend dX8_told_166 (by rw [e9]) (by rw [e9])
    ·
      refine v_aload_n X 0 dX8_told_41 rfl rfl ?_
      refine v_getI (i := iMO) (k := 24) X (lt_MO ) (sh_MO ) rfl in_MO (by decide) wf_MO_88 rfl (fun _ => rfl) dX8_told_42 ?_
      refine v_if_ne X 50 dX8_told_45 (by decide) (fun h45 => ?_) (fun h45 => ?_)
      ·
        refine v_iload_n X 2 dX8_told_50 rfl rfl ?_
        by_cases h51_0 : xb = 0
        ·
          refine v_tswI (off := 45) X 0 96 h51_0 dX8_told_51 (by decide) (by decide) ?_
          refine v_aload_n X 0 dX8_told_96 rfl rfl ?_
          refine v_getR (j := i_ready) (i := iMO) (k := 12) X (lt_MO ) (sh_MO ) rfl in_MO (by decide) wf_MO_46 rfl (fun _ => rfl) dX8_told_97 ?_
          refine v_iload_n X 1 dX8_told_100 rfl rfl ?_
          have hv101 : vp_in xa 4 := (by subst hg25; exact no3 (ifz1 (up33 h32)).1)
          refine v_zald (i := i_ready) (t0 := 5) X (lt_m_ready ) (sh_m_ready ) rfl hv101 dX8_told_101 ?_
          refine v_suff (pc2 := 110) (lv2 := [(0, .ref (rh iMO)), (1, .int xa), (2, .int xb)]) (st2 := [.int ((if (g25 i_ready (xa).toNatClampNeg) = 0 then 0 else 1) : Int32)]) (σ2 := g25) ?_ (fun J102 => ?_)
          rotate_left
          ·
            refine v_if_eq X 109 dX8_told_102 (by decide) (fun h102 => ?_) (fun h102 => ?_)
            ·
              refine v_iconst (v := 0) X dX8_told_109 (by decide) ?_
              have e9 : (((if (g25 i_ready (xa).toNatClampNeg) = 0 then 0 else 1) : Int32) : Int32) = 0 := by simp only [if_pos h102]
              rw [e9] at J102
              exact J102
            ·
              refine v_iconst (v := 1) X dX8_told_105 (by decide) ?_
              refine v_goto (tgt := 110) X dX8_told_106 (by decide) ?_
              have e9 : (((if (g25 i_ready (xa).toNatClampNeg) = 0 then 0 else 1) : Int32) : Int32) = 1 := by simp only [if_neg h102]
              rw [e9] at J102
              exact J102
          have e9 : f_MO_told xa xb σ = (((if (g25 i_ready (xa).toNatClampNeg) = 0 then 0 else 1) : Int32), g25) := by subst hg25; simp only [f_MO_told, if_pos h32, if_neg h38, if_neg h45, if_pos h51_0]
          exact v_endI hend dX8_told_110 (by rw [e9]) (by rw [e9])
        by_cases h51_1 : xb = 1
        ·
          refine v_tswI (off := 60) X 1 111 h51_1 dX8_told_51 (by decide) (by decide) ?_
          refine v_aload_n X 0 dX8_told_111 rfl rfl ?_
          refine v_getR (j := i_faults) (i := iMO) (k := 7) X (lt_MO ) (sh_MO ) rfl in_MO (by decide) wf_MO_31 rfl (fun _ => rfl) dX8_told_112 ?_
          refine v_iload_n X 1 dX8_told_115 rfl rfl ?_
          have hv116 : vp_in xa 4 := (by subst hg25; exact no3 (ifz1 (up33 h32)).1)
          refine v_iald (i := i_faults) (t0 := 0) X (lt_m_faults ) (sh_m_faults ) rfl hv116 dX8_told_116 ?_
          have e9 : f_MO_told xa xb σ = ((g25 i_faults (xa).toNatClampNeg), g25) := by subst hg25; simp only [f_MO_told, if_pos h32, if_neg h38, if_neg h45, if_neg h51_0, if_pos h51_1]
          exact v_endI hend dX8_told_117 (by rw [e9]) (by rw [e9])
        by_cases h51_2 : xb = 2
        ·
          refine v_tswI (off := 67) X 2 118 h51_2 dX8_told_51 (by decide) (by decide) ?_
          refine v_aload_n X 0 dX8_told_118 rfl rfl ?_
          refine v_getR (j := i_kind) (i := iMO) (k := 8) X (lt_MO ) (sh_MO ) rfl in_MO (by decide) wf_MO_34 rfl (fun _ => rfl) dX8_told_119 ?_
          refine v_iload_n X 1 dX8_told_122 rfl rfl ?_
          have hv123 : vp_in xa 4 := (by subst hg25; exact no3 (ifz1 (up33 h32)).1)
          refine v_iald (i := i_kind) (t0 := 0) X (lt_m_kind ) (sh_m_kind ) rfl hv123 dX8_told_123 ?_
          have e9 : f_MO_told xa xb σ = ((g25 i_kind (xa).toNatClampNeg), g25) := by subst hg25; simp only [f_MO_told, if_pos h32, if_neg h38, if_neg h45, if_neg h51_0, if_neg h51_1, if_pos h51_2]
          exact v_endI hend dX8_told_124 (by rw [e9]) (by rw [e9])
        by_cases h51_3 : xb = 3
        ·
          refine v_tswI (off := 74) X 3 125 h51_3 dX8_told_51 (by decide) (by decide) ?_
          refine v_aload_n X 0 dX8_told_125 rfl rfl ?_
          refine v_getR (j := i_restarts) (i := iMO) (k := 9) X (lt_MO ) (sh_MO ) rfl in_MO (by decide) wf_MO_37 rfl (fun _ => rfl) dX8_told_126 ?_
          refine v_iload_n X 1 dX8_told_129 rfl rfl ?_
          have hv130 : vp_in xa 4 := (by subst hg25; exact no3 (ifz1 (up33 h32)).1)
          refine v_iald (i := i_restarts) (t0 := 0) X (lt_m_restarts ) (sh_m_restarts ) rfl hv130 dX8_told_130 ?_
          have e9 : f_MO_told xa xb σ = ((g25 i_restarts (xa).toNatClampNeg), g25) := by subst hg25; simp only [f_MO_told, if_pos h32, if_neg h38, if_neg h45, if_neg h51_0, if_neg h51_1, if_neg h51_2, if_pos h51_3]
          exact v_endI hend dX8_told_131 (by rw [e9]) (by rw [e9])
        by_cases h51_4 : xb = 4
        ·
          refine v_tswI (off := 81) X 4 132 h51_4 dX8_told_51 (by decide) (by decide) ?_
          refine v_aload_n X 0 dX8_told_132 rfl rfl ?_
          refine v_getR (j := i_begun) (i := iMO) (k := 10) X (lt_MO ) (sh_MO ) rfl in_MO (by decide) wf_MO_40 rfl (fun _ => rfl) dX8_told_133 ?_
          refine v_iload_n X 1 dX8_told_136 rfl rfl ?_
          have hv137 : vp_in xa 4 := (by subst hg25; exact no3 (ifz1 (up33 h32)).1)
          refine v_iald (i := i_begun) (t0 := 0) X (lt_m_begun ) (sh_m_begun ) rfl hv137 dX8_told_137 ?_
          have e9 : f_MO_told xa xb σ = ((g25 i_begun (xa).toNatClampNeg), g25) := by subst hg25; simp only [f_MO_told, if_pos h32, if_neg h38, if_neg h45, if_neg h51_0, if_neg h51_1, if_neg h51_2, if_neg h51_3, if_pos h51_4]
          exact v_endI hend dX8_told_138 (by rw [e9]) (by rw [e9])
        by_cases h51_5 : xb = 5
        ·
          refine v_tswI (off := 88) X 5 139 h51_5 dX8_told_51 (by decide) (by decide) ?_
          refine v_aload_n X 0 dX8_told_139 rfl rfl ?_
          refine v_getR (j := i_measure) (i := iMO) (k := 11) X (lt_MO ) (sh_MO ) rfl in_MO (by decide) wf_MO_43 rfl (fun _ => rfl) dX8_told_140 ?_
          refine v_iload_n X 1 dX8_told_143 rfl rfl ?_
          have hv144 : vp_in xa 4 := (by subst hg25; exact no3 (ifz1 (up33 h32)).1)
          refine v_iald (i := i_measure) (t0 := 0) X (lt_m_measure ) (sh_m_measure ) rfl hv144 dX8_told_144 ?_
          have e9 : f_MO_told xa xb σ = ((g25 i_measure (xa).toNatClampNeg), g25) := by subst hg25; simp only [f_MO_told, if_pos h32, if_neg h38, if_neg h45, if_neg h51_0, if_neg h51_1, if_neg h51_2, if_neg h51_3, if_neg h51_4, if_pos h51_5]
          exact v_endI hend dX8_told_145 (by rw [e9]) (by rw [e9])
        by_cases h51_6 : xb = 6
        ·
          refine v_tswI (off := 95) X 6 146 h51_6 dX8_told_51 (by decide) (by decide) ?_
          refine v_aload_n X 0 dX8_told_146 rfl rfl ?_
          refine v_getR (j := i_policy) (i := iMO) (k := 5) X (lt_MO ) (sh_MO ) rfl in_MO (by decide) wf_MO_25 rfl (fun _ => rfl) dX8_told_147 ?_
          refine v_iload_n X 1 dX8_told_150 rfl rfl ?_
          have hv151 : vp_in xa 4 := (by subst hg25; exact no3 (ifz1 (up33 h32)).1)
          refine v_iald (i := i_policy) (t0 := 0) X (lt_m_policy ) (sh_m_policy ) rfl hv151 dX8_told_151 ?_
          have e9 : f_MO_told xa xb σ = ((g25 i_policy (xa).toNatClampNeg), g25) := by subst hg25; simp only [f_MO_told, if_pos h32, if_neg h38, if_neg h45, if_neg h51_0, if_neg h51_1, if_neg h51_2, if_neg h51_3, if_neg h51_4, if_neg h51_5, if_pos h51_6]
          exact v_endI hend dX8_told_152 (by rw [e9]) (by rw [e9])
        by_cases h51_7 : xb = 7
        ·
          refine v_tswI (off := 102) X 7 153 h51_7 dX8_told_51 (by decide) (by decide) ?_
          refine v_aload_n X 0 dX8_told_153 rfl rfl ?_
          refine v_getR (j := i_from) (i := iMO) (k := 3) X (lt_MO ) (sh_MO ) rfl in_MO (by decide) wf_MO_19 rfl (fun _ => rfl) dX8_told_154 ?_
          refine v_iload_n X 1 dX8_told_157 rfl rfl ?_
          have hv158 : vp_in xa 4 := (by subst hg25; exact no3 (ifz1 (up33 h32)).1)
          refine v_iald (i := i_from) (t0 := 0) X (lt_m_from ) (sh_m_from ) rfl hv158 dX8_told_158 ?_
          have e9 : f_MO_told xa xb σ = ((g25 i_from (xa).toNatClampNeg), g25) := by subst hg25; simp only [f_MO_told, if_pos h32, if_neg h38, if_neg h45, if_neg h51_0, if_neg h51_1, if_neg h51_2, if_neg h51_3, if_neg h51_4, if_neg h51_5, if_neg h51_6, if_pos h51_7]
          exact v_endI hend dX8_told_159 (by rw [e9]) (by rw [e9])
        refine v_tswO X 160 dX8_told_51 (by have g0 := lv_neT (a := 0) h51_0 (by decide); have g1 := lv_neT (a := 1) h51_1 (by decide); have g2 := lv_neT (a := 2) h51_2 (by decide); have g3 := lv_neT (a := 3) h51_3 (by decide); have g4 := lv_neT (a := 4) h51_4 (by decide); have g5 := lv_neT (a := 5) h51_5 (by decide); have g6 := lv_neT (a := 6) h51_6 (by decide); have g7 := lv_neT (a := 7) h51_7 (by decide); omega) (by decide) ?_
        refine v_aload_n X 0 dX8_told_160 rfl rfl ?_
        refine v_getR (j := i_size) (i := iMO) (k := 4) X (lt_MO ) (sh_MO ) rfl in_MO (by decide) wf_MO_22 rfl (fun _ => rfl) dX8_told_161 ?_
        refine v_iload_n X 1 dX8_told_164 rfl rfl ?_
        have hv165 : vp_in xa 4 := (by subst hg25; exact no3 (ifz1 (up33 h32)).1)
        refine v_iald (i := i_size) (t0 := 0) X (lt_m_size ) (sh_m_size ) rfl hv165 dX8_told_165 ?_
        have e9 : f_MO_told xa xb σ = ((g25 i_size (xa).toNatClampNeg), g25) := by subst hg25; simp only [f_MO_told, if_pos h32, if_neg h38, if_neg h45, if_neg h51_0, if_neg h51_1, if_neg h51_2, if_neg h51_3, if_neg h51_4, if_neg h51_5, if_neg h51_6, if_neg h51_7]
        exact v_endI hend dX8_told_166 (by rw [e9]) (by rw [e9])
      ·
        refine v_iconst (v := 0) X dX8_told_48 (by decide) ?_
        have e9 : f_MO_told xa xb σ = (0, g25) := by subst hg25; simp only [f_MO_told, if_pos h32, if_neg h38, if_pos h45]
        exact v_endI hend dX8_told_49 (by rw [e9]) (by rw [e9])
theorem I_MO_told (xa : Int32) (xb : Int32) {σ : St} (hI : Im σ) : Im (f_MO_told xa xb σ).2 := by
  unfold f_MO_told
  exact (im_ite2 (fun _ => (im_ite2 (fun _ => (im_ite2 (fun _ => (Im.upMO hI (by decide))) (fun _ => (im_ite2 (fun _ => (Im.upMO hI (by decide))) (fun _ => (im_ite2 (fun _ => (Im.upMO hI (by decide))) (fun _ => (im_ite2 (fun _ => (Im.upMO hI (by decide))) (fun _ => (im_ite2 (fun _ => (Im.upMO hI (by decide))) (fun _ => (im_ite2 (fun _ => (Im.upMO hI (by decide))) (fun _ => (im_ite2 (fun _ => (Im.upMO hI (by decide))) (fun _ => (im_ite2 (fun _ => (Im.upMO hI (by decide))) (fun _ => (Im.upMO hI (by decide))))))))))))))))))) (fun _ => (im_ite2 (fun _ => (Im.upMO hI (by decide))) (fun _ => (im_ite2 (fun _ => (Im.upMO hI (by decide))) (fun _ => (im_ite2 (fun _ => (Im.upMO hI (by decide))) (fun _ => (im_ite2 (fun _ => (Im.upMO hI (by decide))) (fun _ => (im_ite2 (fun _ => (Im.upMO hI (by decide))) (fun _ => (im_ite2 (fun _ => (Im.upMO hI (by decide))) (fun _ => (im_ite2 (fun _ => (Im.upMO hI (by decide))) (fun _ => (im_ite2 (fun _ => (Im.upMO hI (by decide))) (fun _ => (im_ite2 (fun _ => (Im.upMO hI (by decide))) (fun _ => (Im.upMO hI (by decide))))))))))))))))))))))) (fun _ => (Im.upMO hI (by decide))))
def f_MO_object (xa : Int32) (xb : Int32) (σ : St) : Int32 × St :=
  (if ((up σ iMO 33 ((if (f_MO_no xa 3) = 0 then (if (f_MO_no xb 3) = 0 then 0 else 1) else 1) : Int32)) iMO 33) = 0 then (if xb = 0 then (((if ((up σ iMO 33 ((if (f_MO_no xa 3) = 0 then (if (f_MO_no xb 3) = 0 then 0 else 1) else 1) : Int32)) i_full (xa).toNatClampNeg) = 0 then 0 else ((up σ iMO 33 ((if (f_MO_no xa 3) = 0 then (if (f_MO_no xb 3) = 0 then 0 else 1) else 1) : Int32)) i_value (xa).toNatClampNeg)) : Int32), (up σ iMO 33 ((if (f_MO_no xa 3) = 0 then (if (f_MO_no xb 3) = 0 then 0 else 1) else 1) : Int32))) else (if xb = 1 then (((if ((up σ iMO 33 ((if (f_MO_no xa 3) = 0 then (if (f_MO_no xb 3) = 0 then 0 else 1) else 1) : Int32)) i_full (xa).toNatClampNeg) = 0 then (-1) else ((up σ iMO 33 ((if (f_MO_no xa 3) = 0 then (if (f_MO_no xb 3) = 0 then 0 else 1) else 1) : Int32)) i_hour (xa).toNatClampNeg)) : Int32), (up σ iMO 33 ((if (f_MO_no xa 3) = 0 then (if (f_MO_no xb 3) = 0 then 0 else 1) else 1) : Int32))) else (((if xb = 2 then ((up σ iMO 33 ((if (f_MO_no xa 3) = 0 then (if (f_MO_no xb 3) = 0 then 0 else 1) else 1) : Int32)) i_holds (xa).toNatClampNeg) else ((up σ iMO 33 ((if (f_MO_no xa 3) = 0 then (if (f_MO_no xb 3) = 0 then 0 else 1) else 1) : Int32)) i_seal (xa).toNatClampNeg)) : Int32), (up σ iMO 33 ((if (f_MO_no xa 3) = 0 then (if (f_MO_no xb 3) = 0 then 0 else 1) else 1) : Int32))))) else (0, (up σ iMO 33 ((if (f_MO_no xa 3) = 0 then (if (f_MO_no xb 3) = 0 then 0 else 1) else 1) : Int32))))
set_option maxHeartbeats 4000000 in
set_option maxRecDepth 100000 in
theorem c_MO_object (xa : Int32) (xb : Int32) (σ : St) (hI : Im σ) : CI l D (tyL cA) rh (rcW rh cA) NW yX8_object cX8_object 3 .int 1 [.ref (rh iMO), .int xa, .int xb] σ (f_MO_object xa xb σ).1 (f_MO_object xa xb σ).2 := by
  refine CI.of rfl (Nat.le_of_ble_eq_true rfl) rfl ?_
  intro p9 e s m args below meth c A Q X hend
  refine v_lv (lv' := [(0, .ref (rh iMO)), (1, .int xa), (2, .int xb)]) [0, 1, 2] rfl ?_
  refine v_aload_n X 0 dX8_object_0 rfl rfl ?_
  refine v_aload_n X 0 dX8_object_1 rfl rfl ?_
  refine v_iload_n X 1 dX8_object_2 rfl rfl ?_
  refine v_iconst (v := 3) X dX8_object_3 (by decide) ?_
  refine v_callV_CI (rest := [.ref (rh iMO)]) X [.int xa, .int 3] (c_MO_no xa 3 σ ) mf_MO_no wi_MO_no wl_MO_no (lt_MO ) (sh_MO ) rfl wm_MO_92 rfl ⟨by decide, by decide⟩ (Nat.le_of_ble_eq_true rfl) ⟨by decide, by decide⟩ dX8_object_4 ?_
  refine v_suff (pc2 := 24) (lv2 := [(0, .ref (rh iMO)), (1, .int xa), (2, .int xb)]) (st2 := [.int ((if (f_MO_no xa 3) = 0 then (if (f_MO_no xb 3) = 0 then 0 else 1) else 1) : Int32), .ref (rh iMO)]) (σ2 := σ) ?_ (fun J7 => ?_)
  rotate_left
  ·
    refine v_if_ne X 19 dX8_object_7 (by decide) (fun h7 => ?_) (fun h7 => ?_)
    ·
      refine v_iconst (v := 1) X dX8_object_19 (by decide) ?_
      refine v_goto (tgt := 24) X dX8_object_20 (by decide) ?_
      have e9 : (((if (f_MO_no xa 3) = 0 then (if (f_MO_no xb 3) = 0 then 0 else 1) else 1) : Int32) : Int32) = 1 := by simp only [if_neg h7]
      rw [e9] at J7
      exact J7
    ·
      refine v_aload_n X 0 dX8_object_10 rfl rfl ?_
      refine v_iload_n X 2 dX8_object_11 rfl rfl ?_
      refine v_iconst (v := 3) X dX8_object_12 (by decide) ?_
      refine v_callV_CI (rest := [.ref (rh iMO)]) X [.int xb, .int 3] (c_MO_no xb 3 σ ) mf_MO_no wi_MO_no wl_MO_no (lt_MO ) (sh_MO ) rfl wm_MO_92 rfl ⟨by decide, by decide⟩ (Nat.le_of_ble_eq_true rfl) ⟨by decide, by decide⟩ dX8_object_13 ?_
      refine v_if_eq X 23 dX8_object_16 (by decide) (fun h16 => ?_) (fun h16 => ?_)
      ·
        refine v_iconst (v := 0) X dX8_object_23 (by decide) ?_
        have e9 : (((if (f_MO_no xa 3) = 0 then (if (f_MO_no xb 3) = 0 then 0 else 1) else 1) : Int32) : Int32) = 0 := by simp only [if_pos h7, if_pos h16]
        rw [e9] at J7
        exact J7
      ·
        refine v_iconst (v := 1) X dX8_object_19 (by decide) ?_
        refine v_goto (tgt := 24) X dX8_object_20 (by decide) ?_
        have e9 : (((if (f_MO_no xa 3) = 0 then (if (f_MO_no xb 3) = 0 then 0 else 1) else 1) : Int32) : Int32) = 1 := by simp only [if_pos h7, if_neg h16]
        rw [e9] at J7
        exact J7
  refine v_put (i := iMO) (k := 33) (x := ((if (f_MO_no xa 3) = 0 then (if (f_MO_no xb 3) = 0 then 0 else 1) else 1) : Int32)) (ty := .int) X (lt_MO ) (sh_MO ) rfl in_MO (by decide) tyX8 tyX8_ok nX8 wf_MO_84 rfl rfl rfl rfl rfl (fun _ => Nat.le_of_ble_eq_true rfl) (fun _ _ => rfl) dX8_object_24 ?_
  generalize hg24 : (up σ iMO 33 ((if (f_MO_no xa 3) = 0 then (if (f_MO_no xb 3) = 0 then 0 else 1) else 1) : Int32)) = g24
  have hI24 : Im g24 := by rw [← hg24]; exact (Im.upMO hI (by decide))
  refine v_aload_n X 0 dX8_object_27 rfl rfl ?_
  refine v_getI (i := iMO) (k := 33) X (lt_MO ) (sh_MO ) rfl in_MO (by decide) wf_MO_84 rfl (fun _ => rfl) dX8_object_28 ?_
  refine v_if_eq X 36 dX8_object_31 (by decide) (fun h31 => ?_) (fun h31 => ?_)
  ·
    refine v_iload_n X 2 dX8_object_36 rfl rfl ?_
    refine v_if_ne X 60 dX8_object_37 (by decide) (fun h37 => ?_) (fun h37 => ?_)
    ·
      refine v_iload_n X 2 dX8_object_60 rfl rfl ?_
      refine v_iconst (v := 1) X dX8_object_61 (by decide) ?_
      refine v_icmp_ne X 85 dX8_object_62 (by decide) (fun h62 => ?_) (fun h62 => ?_)
      ·
        refine v_iload_n X 2 dX8_object_85 rfl rfl ?_
        refine v_iconst (v := 2) X dX8_object_86 (by decide) ?_
        refine v_suff (pc2 := 105) (lv2 := [(0, .ref (rh iMO)), (1, .int xa), (2, .int xb)]) (st2 := [.int ((if xb = 2 then (g24 i_holds (xa).toNatClampNeg) else (g24 i_seal (xa).toNatClampNeg)) : Int32)]) (σ2 := g24) ?_ (fun J87 => ?_)
        rotate_left
        ·
          refine v_icmp_ne X 99 dX8_object_87 (by decide) (fun h87 => ?_) (fun h87 => ?_)
          ·
            refine v_aload_n X 0 dX8_object_99 rfl rfl ?_
            refine v_getR (j := i_seal) (i := iMO) (k := 22) X (lt_MO ) (sh_MO ) rfl in_MO (by decide) wf_MO_77 rfl (fun _ => rfl) dX8_object_100 ?_
            refine v_iload_n X 1 dX8_object_103 rfl rfl ?_
            have hv104 : vp_in xa 4 := (by subst hg24; exact no3 (ifz1 (up33 h31)).1)
            refine v_iald (i := i_seal) (t0 := 0) X (lt_m_seal ) (sh_m_seal ) rfl hv104 dX8_object_104 ?_
            have e9 : (((if xb = 2 then (g24 i_holds (xa).toNatClampNeg) else (g24 i_seal (xa).toNatClampNeg)) : Int32) : Int32) = (g24 i_seal (xa).toNatClampNeg) := by simp only [if_neg h87]
            rw [e9] at J87
            exact J87
          ·
            refine v_aload_n X 0 dX8_object_90 rfl rfl ?_
            refine v_getR (j := i_holds) (i := iMO) (k := 21) X (lt_MO ) (sh_MO ) rfl in_MO (by decide) wf_MO_74 rfl (fun _ => rfl) dX8_object_91 ?_
            refine v_iload_n X 1 dX8_object_94 rfl rfl ?_
            have hv95 : vp_in xa 4 := (by subst hg24; exact no3 (ifz1 (up33 h31)).1)
            refine v_iald (i := i_holds) (t0 := 0) X (lt_m_holds ) (sh_m_holds ) rfl hv95 dX8_object_95 ?_
            refine v_goto (tgt := 105) X dX8_object_96 (by decide) ?_
            have e9 : (((if xb = 2 then (g24 i_holds (xa).toNatClampNeg) else (g24 i_seal (xa).toNatClampNeg)) : Int32) : Int32) = (g24 i_holds (xa).toNatClampNeg) := by simp only [if_pos h87]
            rw [e9] at J87
            exact J87
        have e9 : f_MO_object xa xb σ = (((if xb = 2 then (g24 i_holds (xa).toNatClampNeg) else (g24 i_seal (xa).toNatClampNeg)) : Int32), g24) := by subst hg24; simp only [f_MO_object, if_pos h31, if_neg h37, if_neg h62]
        exact v_endI hend dX8_object_105 (by rw [e9]) (by rw [e9])
      ·
        refine v_aload_n X 0 dX8_object_65 rfl rfl ?_
        refine v_getR (j := i_full) (i := iMO) (k := 13) X (lt_MO ) (sh_MO ) rfl in_MO (by decide) wf_MO_50 rfl (fun _ => rfl) dX8_object_66 ?_
        refine v_iload_n X 1 dX8_object_69 rfl rfl ?_
        have hv70 : vp_in xa 4 := (by subst hg24; exact no3 (ifz1 (up33 h31)).1)
        refine v_zald (i := i_full) (t0 := 5) X (lt_m_full ) (sh_m_full ) rfl hv70 dX8_object_70 ?_
        refine v_suff (pc2 := 84) (lv2 := [(0, .ref (rh iMO)), (1, .int xa), (2, .int xb)]) (st2 := [.int ((if (g24 i_full (xa).toNatClampNeg) = 0 then (-1) else (g24 i_hour (xa).toNatClampNeg)) : Int32)]) (σ2 := g24) ?_ (fun J71 => ?_)
        rotate_left
        ·
          refine v_if_eq X 83 dX8_object_71 (by decide) (fun h71 => ?_) (fun h71 => ?_)
          ·
            refine v_iconst (v := (-1)) X dX8_object_83 (by decide) ?_
            have e9 : (((if (g24 i_full (xa).toNatClampNeg) = 0 then (-1) else (g24 i_hour (xa).toNatClampNeg)) : Int32) : Int32) = (-1) := by simp only [if_pos h71]
            rw [e9] at J71
            exact J71
          ·
            refine v_aload_n X 0 dX8_object_74 rfl rfl ?_
            refine v_getR (j := i_hour) (i := iMO) (k := 20) X (lt_MO ) (sh_MO ) rfl in_MO (by decide) wf_MO_71 rfl (fun _ => rfl) dX8_object_75 ?_
            refine v_iload_n X 1 dX8_object_78 rfl rfl ?_
            have hv79 : vp_in xa 4 := (by subst hg24; exact no3 (ifz1 (up33 h31)).1)
            refine v_iald (i := i_hour) (t0 := 0) X (lt_m_hour ) (sh_m_hour ) rfl hv79 dX8_object_79 ?_
            refine v_goto (tgt := 84) X dX8_object_80 (by decide) ?_
            have e9 : (((if (g24 i_full (xa).toNatClampNeg) = 0 then (-1) else (g24 i_hour (xa).toNatClampNeg)) : Int32) : Int32) = (g24 i_hour (xa).toNatClampNeg) := by simp only [if_neg h71]
            rw [e9] at J71
            exact J71
        have e9 : f_MO_object xa xb σ = (((if (g24 i_full (xa).toNatClampNeg) = 0 then (-1) else (g24 i_hour (xa).toNatClampNeg)) : Int32), g24) := by subst hg24; simp only [f_MO_object, if_pos h31, if_neg h37, if_pos h62]
        exact v_endI hend dX8_object_84 (by rw [e9]) (by rw [e9])
    ·
      refine v_aload_n X 0 dX8_object_40 rfl rfl ?_
      refine v_getR (j := i_full) (i := iMO) (k := 13) X (lt_MO ) (sh_MO ) rfl in_MO (by decide) wf_MO_50 rfl (fun _ => rfl) dX8_object_41 ?_
      refine v_iload_n X 1 dX8_object_44 rfl rfl ?_
      have hv45 : vp_in xa 4 := (by subst hg24; exact no3 (ifz1 (up33 h31)).1)
      refine v_zald (i := i_full) (t0 := 5) X (lt_m_full ) (sh_m_full ) rfl hv45 dX8_object_45 ?_
      refine v_suff (pc2 := 59) (lv2 := [(0, .ref (rh iMO)), (1, .int xa), (2, .int xb)]) (st2 := [.int ((if (g24 i_full (xa).toNatClampNeg) = 0 then 0 else (g24 i_value (xa).toNatClampNeg)) : Int32)]) (σ2 := g24) ?_ (fun J46 => ?_)
      rotate_left
      ·
        refine v_if_eq X 58 dX8_object_46 (by decide) (fun h46 => ?_) (fun h46 => ?_)
        ·
          refine v_iconst (v := 0) X dX8_object_58 (by decide) ?_
          have e9 : (((if (g24 i_full (xa).toNatClampNeg) = 0 then 0 else (g24 i_value (xa).toNatClampNeg)) : Int32) : Int32) = 0 := by simp only [if_pos h46]
          rw [e9] at J46
          exact J46
        ·
          refine v_aload_n X 0 dX8_object_49 rfl rfl ?_
          refine v_getR (j := i_value) (i := iMO) (k := 19) X (lt_MO ) (sh_MO ) rfl in_MO (by decide) wf_MO_68 rfl (fun _ => rfl) dX8_object_50 ?_
          refine v_iload_n X 1 dX8_object_53 rfl rfl ?_
          have hv54 : vp_in xa 4 := (by subst hg24; exact no3 (ifz1 (up33 h31)).1)
          refine v_iald (i := i_value) (t0 := 0) X (lt_m_value ) (sh_m_value ) rfl hv54 dX8_object_54 ?_
          refine v_goto (tgt := 59) X dX8_object_55 (by decide) ?_
          have e9 : (((if (g24 i_full (xa).toNatClampNeg) = 0 then 0 else (g24 i_value (xa).toNatClampNeg)) : Int32) : Int32) = (g24 i_value (xa).toNatClampNeg) := by simp only [if_neg h46]
          rw [e9] at J46
          exact J46
      have e9 : f_MO_object xa xb σ = (((if (g24 i_full (xa).toNatClampNeg) = 0 then 0 else (g24 i_value (xa).toNatClampNeg)) : Int32), g24) := by subst hg24; simp only [f_MO_object, if_pos h31, if_pos h37]
      exact v_endI hend dX8_object_59 (by rw [e9]) (by rw [e9])
  ·
    refine v_iconst (v := 0) X dX8_object_34 (by decide) ?_
    have e9 : f_MO_object xa xb σ = (0, g24) := by subst hg24; simp only [f_MO_object, if_neg h31]
    exact v_endI hend dX8_object_35 (by rw [e9]) (by rw [e9])
theorem I_MO_object (xa : Int32) (xb : Int32) {σ : St} (hI : Im σ) : Im (f_MO_object xa xb σ).2 := by
  unfold f_MO_object
  exact (im_ite2 (fun _ => (im_ite2 (fun _ => (Im.upMO hI (by decide))) (fun _ => (im_ite2 (fun _ => (Im.upMO hI (by decide))) (fun _ => (Im.upMO hI (by decide))))))) (fun _ => (Im.upMO hI (by decide))))
def f_MO_loads (xa : Int32) (xb : Int32) (xc : Int32) (σ : St) : Int32 × St :=
  (if (xb &&& 3) = 0 then (if (f_MO_inside xa xb σ) = 0 then (if (f_MO_at xb) < 0 then (3, σ) else (if ((sshr (σ i_readers ((f_MO_at xb)).toNatClampNeg) xa) &&& 1) = 0 then (3, σ) else (0, (f_MO_put xa xc ((if (σ i_full ((f_MO_at xb)).toNatClampNeg) = 0 then 0 else (σ i_value ((f_MO_at xb)).toNatClampNeg)) : Int32) σ)))) else (0, (f_MO_put xa xc (σ i_memory (((σ i_from (xa).toNatClampNeg) + (xb / 4))).toNatClampNeg) σ))) else (2, σ))
set_option maxHeartbeats 4000000 in
set_option maxRecDepth 100000 in
theorem c_MO_loads (xa : Int32) (xb : Int32) (xc : Int32) (σ : St) (hI : Im σ) (hq : vp_in xa 4) (hr : vp_in xc 16) : CI l D (tyL cA) rh (rcW rh cA) NW yX8_loads cX8_loads 5 .int 1 [.ref (rh iMO), .int xa, .int xb, .int xc] σ (f_MO_loads xa xb xc σ).1 (f_MO_loads xa xb xc σ).2 := by
  refine CI.of rfl (Nat.le_of_ble_eq_true rfl) rfl ?_
  intro p9 e s m args below meth c A Q X hend
  refine v_lv (lv' := [(0, .ref (rh iMO)), (1, .int xa), (2, .int xb), (3, .int xc)]) [0, 1, 2, 3] rfl ?_
  refine v_aload_n X 0 dX8_loads_0 rfl rfl ?_
  refine v_iload_n X 2 dX8_loads_1 rfl rfl ?_
  refine v_callV_CI (rest := []) X [.int xb] (c_MO_at xb σ ) mf_MO_at wi_MO_at wl_MO_at (lt_MO ) (sh_MO ) rfl wm_MO_137 rfl ⟨by decide, by decide⟩ (Nat.le_of_ble_eq_true rfl) ⟨by decide, by decide⟩ dX8_loads_2 ?_
  refine v_istore (lv' := [(4, .int (f_MO_at xb)), (0, .ref (rh iMO)), (1, .int xa), (2, .int xb), (3, .int xc)]) X dX8_loads_5 (by decide) rfl ?_
  refine v_iload_n X 3 dX8_loads_7 rfl rfl ?_
  refine v_iconst (v := 3) X dX8_loads_8 (by decide) ?_
  refine v_iand X dX8_loads_9 ?_
  refine v_if_eq X 15 dX8_loads_10 (by decide) (fun h10 => ?_) (fun h10 => ?_)
  ·
    refine v_aload_n X 1 dX8_loads_15 rfl rfl ?_
    refine v_iload_n X 2 dX8_loads_16 rfl rfl ?_
    refine v_iload_n X 3 dX8_loads_17 rfl rfl ?_
    refine v_callV_CI (rest := []) X [.int xa, .int xb] (c_MO_inside xa xb σ (by assumption)) mf_MO_inside wi_MO_inside wl_MO_inside (lt_MO ) (sh_MO ) rfl wm_MO_140 rfl ⟨by decide, by decide⟩ (Nat.le_of_ble_eq_true rfl) ⟨by decide, by decide⟩ dX8_loads_18 ?_
    refine v_if_eq X 48 dX8_loads_21 (by decide) (fun h21 => ?_) (fun h21 => ?_)
    ·
      refine v_iload X 0 dX8_loads_48 rfl ?_
      refine v_if_lt X 97 dX8_loads_50 (by decide) (fun h50 => ?_) (fun h50 => ?_)
      ·
        refine v_iconst (v := 3) X dX8_loads_97 (by decide) ?_
        have e9 : f_MO_loads xa xb xc σ = (3, σ) := by simp only [f_MO_loads, if_pos h10, if_pos h21, if_pos h50]
        exact v_endI hend dX8_loads_98 (by rw [e9]) (by rw [e9])
      ·
        refine v_aload_n X 1 dX8_loads_53 rfl rfl ?_
        refine v_getR (j := i_readers) (i := iMO) (k := 17) X (lt_MO ) (sh_MO ) rfl in_MO (by decide) wf_MO_62 rfl (fun _ => rfl) dX8_loads_54 ?_
        refine v_iload X 0 dX8_loads_57 rfl ?_
        have hv59 : vp_in (f_MO_at xb) 4 := (at_in h50)
        refine v_iald (i := i_readers) (t0 := 0) X (lt_m_readers ) (sh_m_readers ) rfl hv59 dX8_loads_59 ?_
        refine v_iload_n X 2 dX8_loads_60 rfl rfl ?_
        refine v_ishr X dX8_loads_61 ?_
        refine v_iconst (v := 1) X dX8_loads_62 (by decide) ?_
        refine v_iand X dX8_loads_63 ?_
        refine v_if_eq X 97 dX8_loads_64 (by decide) (fun h64 => ?_) (fun h64 => ?_)
        ·
          refine v_iconst (v := 3) X dX8_loads_97 (by decide) ?_
          have e9 : f_MO_loads xa xb xc σ = (3, σ) := by simp only [f_MO_loads, if_pos h10, if_pos h21, if_neg h50, if_pos h64]
          exact v_endI hend dX8_loads_98 (by rw [e9]) (by rw [e9])
        ·
          refine v_aload_n X 1 dX8_loads_67 rfl rfl ?_
          refine v_iload_n X 2 dX8_loads_68 rfl rfl ?_
          refine v_iload_n X 4 dX8_loads_69 rfl rfl ?_
          refine v_aload_n X 1 dX8_loads_70 rfl rfl ?_
          refine v_getR (j := i_full) (i := iMO) (k := 13) X (lt_MO ) (sh_MO ) rfl in_MO (by decide) wf_MO_50 rfl (fun _ => rfl) dX8_loads_71 ?_
          refine v_iload X 0 dX8_loads_74 rfl ?_
          have hv76 : vp_in (f_MO_at xb) 4 := (at_in h50)
          refine v_zald (i := i_full) (t0 := 5) X (lt_m_full ) (sh_m_full ) rfl hv76 dX8_loads_76 ?_
          refine v_suff (pc2 := 91) (lv2 := [(4, .int (f_MO_at xb)), (0, .ref (rh iMO)), (1, .int xa), (2, .int xb), (3, .int xc)]) (st2 := [.int ((if (σ i_full ((f_MO_at xb)).toNatClampNeg) = 0 then 0 else (σ i_value ((f_MO_at xb)).toNatClampNeg)) : Int32), .int xc, .int xa, .ref (rh iMO)]) (σ2 := σ) ?_ (fun J77 => ?_)
          rotate_left
          ·
            refine v_if_eq X 90 dX8_loads_77 (by decide) (fun h77 => ?_) (fun h77 => ?_)
            ·
              refine v_iconst (v := 0) X dX8_loads_90 (by decide) ?_
              have e9 : (((if (σ i_full ((f_MO_at xb)).toNatClampNeg) = 0 then 0 else (σ i_value ((f_MO_at xb)).toNatClampNeg)) : Int32) : Int32) = 0 := by simp only [if_pos h77]
              rw [e9] at J77
              exact J77
            ·
              refine v_aload_n X 1 dX8_loads_80 rfl rfl ?_
              refine v_getR (j := i_value) (i := iMO) (k := 19) X (lt_MO ) (sh_MO ) rfl in_MO (by decide) wf_MO_68 rfl (fun _ => rfl) dX8_loads_81 ?_
              refine v_iload X 0 dX8_loads_84 rfl ?_
              have hv86 : vp_in (f_MO_at xb) 4 := (at_in h50)
              refine v_iald (i := i_value) (t0 := 0) X (lt_m_value ) (sh_m_value ) rfl hv86 dX8_loads_86 ?_
              refine v_goto (tgt := 91) X dX8_loads_87 (by decide) ?_
              have e9 : (((if (σ i_full ((f_MO_at xb)).toNatClampNeg) = 0 then 0 else (σ i_value ((f_MO_at xb)).toNatClampNeg)) : Int32) : Int32) = (σ i_value ((f_MO_at xb)).toNatClampNeg) := by simp only [if_neg h77]
              rw [e9] at J77
              exact J77
          refine v_callV_CV (rest := []) X [.int xa, .int xc, .int ((if (σ i_full ((f_MO_at xb)).toNatClampNeg) = 0 then 0 else (σ i_value ((f_MO_at xb)).toNatClampNeg)) : Int32)] (c_MO_put xa xc ((if (σ i_full ((f_MO_at xb)).toNatClampNeg) = 0 then 0 else (σ i_value ((f_MO_at xb)).toNatClampNeg)) : Int32) σ (by assumption) (by assumption)) mf_MO_put wi_MO_put wl_MO_put (lt_MO ) (sh_MO ) rfl wm_MO_143 rfl ⟨by decide, by decide⟩ (Nat.le_of_ble_eq_true rfl) ⟨by decide, by decide⟩ dX8_loads_91 ?_
          generalize hg91 : (f_MO_put xa xc ((if (σ i_full ((f_MO_at xb)).toNatClampNeg) = 0 then 0 else (σ i_value ((f_MO_at xb)).toNatClampNeg)) : Int32) σ) = g91
          have hI91 : Im g91 := by rw [← hg91]; exact (I_MO_put xa xc ((if (σ i_full ((f_MO_at xb)).toNatClampNeg) = 0 then 0 else (σ i_value ((f_MO_at xb)).toNatClampNeg)) : Int32) hI (by assumption) (by assumption))
          refine v_goto (tgt := 99) X dX8_loads_94 (by decide) ?_
          refine v_iconst (v := 0) X dX8_loads_99 (by decide) ?_
          have e9 : f_MO_loads xa xb xc σ = (0, g91) := by subst hg91; simp only [f_MO_loads, if_pos h10, if_pos h21, if_neg h50, if_neg h64]
          exact v_endI hend dX8_loads_100 (by rw [e9]) (by rw [e9])
    ·
      refine v_aload_n X 1 dX8_loads_24 rfl rfl ?_
      refine v_iload_n X 2 dX8_loads_25 rfl rfl ?_
      refine v_iload_n X 4 dX8_loads_26 rfl rfl ?_
      refine v_aload_n X 1 dX8_loads_27 rfl rfl ?_
      refine v_getR (j := i_memory) (i := iMO) (k := 0) X (lt_MO ) (sh_MO ) rfl in_MO (by decide) wf_MO_7 rfl (fun _ => rfl) dX8_loads_28 ?_
      refine v_aload_n X 1 dX8_loads_31 rfl rfl ?_
      refine v_getR (j := i_from) (i := iMO) (k := 3) X (lt_MO ) (sh_MO ) rfl in_MO (by decide) wf_MO_19 rfl (fun _ => rfl) dX8_loads_32 ?_
      refine v_iload_n X 2 dX8_loads_35 rfl rfl ?_
      have hv36 : vp_in xa 4 := hq
      refine v_iald (i := i_from) (t0 := 0) X (lt_m_from ) (sh_m_from ) rfl hv36 dX8_loads_36 ?_
      refine v_iload_n X 3 dX8_loads_37 rfl rfl ?_
      refine v_iconst (v := 4) X dX8_loads_38 (by decide) ?_
      refine v_idiv X (by decide) dX8_loads_39 ?_
      refine v_iadd X dX8_loads_40 ?_
      have hv41 : vp_in ((σ i_from (xa).toNatClampNeg) + (xb / 4)) 96 := (ins_in hI hq h21)
      refine v_iald (i := i_memory) (t0 := 0) X (lt_m_memory ) (sh_m_memory ) rfl hv41 dX8_loads_41 ?_
      refine v_callV_CV (rest := []) X [.int xa, .int xc, .int (σ i_memory (((σ i_from (xa).toNatClampNeg) + (xb / 4))).toNatClampNeg)] (c_MO_put xa xc (σ i_memory (((σ i_from (xa).toNatClampNeg) + (xb / 4))).toNatClampNeg) σ (by assumption) (by assumption)) mf_MO_put wi_MO_put wl_MO_put (lt_MO ) (sh_MO ) rfl wm_MO_143 rfl ⟨by decide, by decide⟩ (Nat.le_of_ble_eq_true rfl) ⟨by decide, by decide⟩ dX8_loads_42 ?_
      generalize hg42 : (f_MO_put xa xc (σ i_memory (((σ i_from (xa).toNatClampNeg) + (xb / 4))).toNatClampNeg) σ) = g42
      have hI42 : Im g42 := by rw [← hg42]; exact (I_MO_put xa xc (σ i_memory (((σ i_from (xa).toNatClampNeg) + (xb / 4))).toNatClampNeg) hI (by assumption) (by assumption))
      refine v_goto (tgt := 99) X dX8_loads_45 (by decide) ?_
      refine v_iconst (v := 0) X dX8_loads_99 (by decide) ?_
      have e9 : f_MO_loads xa xb xc σ = (0, g42) := by subst hg42; simp only [f_MO_loads, if_pos h10, if_neg h21]
      exact v_endI hend dX8_loads_100 (by rw [e9]) (by rw [e9])
  ·
    refine v_iconst (v := 2) X dX8_loads_13 (by decide) ?_
    have e9 : f_MO_loads xa xb xc σ = (2, σ) := by simp only [f_MO_loads, if_neg h10]
    exact v_endI hend dX8_loads_14 (by rw [e9]) (by rw [e9])
theorem I_MO_loads (xa : Int32) (xb : Int32) (xc : Int32) {σ : St} (hI : Im σ) (hq : vp_in xa 4) (hr : vp_in xc 16) : Im (f_MO_loads xa xb xc σ).2 := by
  unfold f_MO_loads
  exact (im_ite2 (fun _ => (im_ite2 (fun _ => (im_ite2 (fun _ => hI) (fun _ => (im_ite2 (fun _ => hI) (fun _ => (I_MO_put xa xc ((if (σ i_full ((f_MO_at xb)).toNatClampNeg) = 0 then 0 else (σ i_value ((f_MO_at xb)).toNatClampNeg)) : Int32) hI (by assumption) (by assumption))))))) (fun _ => (I_MO_put xa xc (σ i_memory (((σ i_from (xa).toNatClampNeg) + (xb / 4))).toNatClampNeg) hI (by assumption) (by assumption))))) (fun _ => hI))
def f_MO_stores (xa : Int32) (xb : Int32) (xc : Int32) (σ : St) : Int32 × St :=
  (if (xb &&& 3) = 0 then (if (f_MO_inside xa xb σ) = 0 then (if (f_MO_at xb) < 0 then (3, σ) else (if (σ i_source ((f_MO_at xb)).toNatClampNeg) = xa then (0, (up (up (up σ i_full ((f_MO_at xb)).toNatClampNeg 1) i_value ((f_MO_at xb)).toNatClampNeg xc) i_hour ((f_MO_at xb)).toNatClampNeg ((up (up σ i_full ((f_MO_at xb)).toNatClampNeg 1) i_value ((f_MO_at xb)).toNatClampNeg xc) iMO 29))) else (3, σ))) else (0, (up σ i_memory (((σ i_from (xa).toNatClampNeg) + (xb / 4))).toNatClampNeg xc))) else (2, σ))
set_option maxHeartbeats 4000000 in
set_option maxRecDepth 100000 in
theorem c_MO_stores (xa : Int32) (xb : Int32) (xc : Int32) (σ : St) (hI : Im σ) (hq : vp_in xa 4) : CI l D (tyL cA) rh (rcW rh cA) NW yX8_stores cX8_stores 5 .int 1 [.ref (rh iMO), .int xa, .int xb, .int xc] σ (f_MO_stores xa xb xc σ).1 (f_MO_stores xa xb xc σ).2 := by
  refine CI.of rfl (Nat.le_of_ble_eq_true rfl) rfl ?_
  intro p9 e s m args below meth c A Q X hend
  refine v_lv (lv' := [(0, .ref (rh iMO)), (1, .int xa), (2, .int xb), (3, .int xc)]) [0, 1, 2, 3] rfl ?_
  refine v_aload_n X 0 dX8_stores_0 rfl rfl ?_
  refine v_iload_n X 2 dX8_stores_1 rfl rfl ?_
  refine v_callV_CI (rest := []) X [.int xb] (c_MO_at xb σ ) mf_MO_at wi_MO_at wl_MO_at (lt_MO ) (sh_MO ) rfl wm_MO_137 rfl ⟨by decide, by decide⟩ (Nat.le_of_ble_eq_true rfl) ⟨by decide, by decide⟩ dX8_stores_2 ?_
  refine v_istore (lv' := [(4, .int (f_MO_at xb)), (0, .ref (rh iMO)), (1, .int xa), (2, .int xb), (3, .int xc)]) X dX8_stores_5 (by decide) rfl ?_
  refine v_iload_n X 3 dX8_stores_7 rfl rfl ?_
  refine v_iconst (v := 3) X dX8_stores_8 (by decide) ?_
  refine v_iand X dX8_stores_9 ?_
  refine v_if_eq X 15 dX8_stores_10 (by decide) (fun h10 => ?_) (fun h10 => ?_)
  ·
    refine v_aload_n X 1 dX8_stores_15 rfl rfl ?_
    refine v_iload_n X 2 dX8_stores_16 rfl rfl ?_
    refine v_iload_n X 3 dX8_stores_17 rfl rfl ?_
    refine v_callV_CI (rest := []) X [.int xa, .int xb] (c_MO_inside xa xb σ (by assumption)) mf_MO_inside wi_MO_inside wl_MO_inside (lt_MO ) (sh_MO ) rfl wm_MO_140 rfl ⟨by decide, by decide⟩ (Nat.le_of_ble_eq_true rfl) ⟨by decide, by decide⟩ dX8_stores_18 ?_
    refine v_if_eq X 43 dX8_stores_21 (by decide) (fun h21 => ?_) (fun h21 => ?_)
    ·
      refine v_iload X 0 dX8_stores_43 rfl ?_
      refine v_if_lt X 89 dX8_stores_45 (by decide) (fun h45 => ?_) (fun h45 => ?_)
      ·
        refine v_iconst (v := 3) X dX8_stores_89 (by decide) ?_
        have e9 : f_MO_stores xa xb xc σ = (3, σ) := by simp only [f_MO_stores, if_pos h10, if_pos h21, if_pos h45]
        exact v_endI hend dX8_stores_90 (by rw [e9]) (by rw [e9])
      ·
        refine v_aload_n X 1 dX8_stores_48 rfl rfl ?_
        refine v_getR (j := i_source) (i := iMO) (k := 16) X (lt_MO ) (sh_MO ) rfl in_MO (by decide) wf_MO_59 rfl (fun _ => rfl) dX8_stores_49 ?_
        refine v_iload X 0 dX8_stores_52 rfl ?_
        have hv54 : vp_in (f_MO_at xb) 4 := (at_in h45)
        refine v_iald (i := i_source) (t0 := 0) X (lt_m_source ) (sh_m_source ) rfl hv54 dX8_stores_54 ?_
        refine v_iload_n X 2 dX8_stores_55 rfl rfl ?_
        refine v_icmp_ne X 89 dX8_stores_56 (by decide) (fun h56 => ?_) (fun h56 => ?_)
        ·
          refine v_iconst (v := 3) X dX8_stores_89 (by decide) ?_
          have e9 : f_MO_stores xa xb xc σ = (3, σ) := by simp only [f_MO_stores, if_pos h10, if_pos h21, if_neg h45, if_neg h56]
          exact v_endI hend dX8_stores_90 (by rw [e9]) (by rw [e9])
        ·
          refine v_aload_n X 1 dX8_stores_59 rfl rfl ?_
          refine v_getR (j := i_full) (i := iMO) (k := 13) X (lt_MO ) (sh_MO ) rfl in_MO (by decide) wf_MO_50 rfl (fun _ => rfl) dX8_stores_60 ?_
          refine v_iload X 0 dX8_stores_63 rfl ?_
          refine v_iconst (v := 1) X dX8_stores_65 (by decide) ?_
          have hv66 : vp_in (f_MO_at xb) 4 := (at_in h45)
          refine v_zast (i := i_full) (t0 := 5) (x := 1) X (Or.inr rfl) (lt_m_full ) (sh_m_full ) rfl hv66 dX8_stores_66 ?_
          generalize hg66 : (up σ i_full ((f_MO_at xb)).toNatClampNeg 1) = g66
          have hI66 : Im g66 := by rw [← hg66]; exact (Im.upA hI (by decide))
          refine v_aload_n X 1 dX8_stores_67 rfl rfl ?_
          refine v_getR (j := i_value) (i := iMO) (k := 19) X (lt_MO ) (sh_MO ) rfl in_MO (by decide) wf_MO_68 rfl (fun _ => rfl) dX8_stores_68 ?_
          refine v_iload X 0 dX8_stores_71 rfl ?_
          refine v_iload_n X 4 dX8_stores_73 rfl rfl ?_
          have hv74 : vp_in (f_MO_at xb) 4 := (at_in h45)
          refine v_iast (i := i_value) (t0 := 0) X (lt_m_value ) (sh_m_value ) rfl hv74 dX8_stores_74 ?_
          generalize hg74 : (up g66 i_value ((f_MO_at xb)).toNatClampNeg xc) = g74
          have hI74 : Im g74 := by rw [← hg74]; exact (Im.upA hI66 (by decide))
          refine v_aload_n X 1 dX8_stores_75 rfl rfl ?_
          refine v_getR (j := i_hour) (i := iMO) (k := 20) X (lt_MO ) (sh_MO ) rfl in_MO (by decide) wf_MO_71 rfl (fun _ => rfl) dX8_stores_76 ?_
          refine v_iload X 0 dX8_stores_79 rfl ?_
          refine v_aload_n X 1 dX8_stores_81 rfl rfl ?_
          refine v_getI (i := iMO) (k := 29) X (lt_MO ) (sh_MO ) rfl in_MO (by decide) wf_MO_109 rfl (fun _ => rfl) dX8_stores_82 ?_
          have hv85 : vp_in (f_MO_at xb) 4 := (at_in h45)
          refine v_iast (i := i_hour) (t0 := 0) X (lt_m_hour ) (sh_m_hour ) rfl hv85 dX8_stores_85 ?_
          generalize hg85 : (up g74 i_hour ((f_MO_at xb)).toNatClampNeg (g74 iMO 29)) = g85
          have hI85 : Im g85 := by rw [← hg85]; exact (Im.upA hI74 (by decide))
          refine v_goto (tgt := 91) X dX8_stores_86 (by decide) ?_
          refine v_iconst (v := 0) X dX8_stores_91 (by decide) ?_
          have e9 : f_MO_stores xa xb xc σ = (0, g85) := by subst hg66; subst hg74; subst hg85; simp only [f_MO_stores, if_pos h10, if_pos h21, if_neg h45, if_pos h56]
          exact v_endI hend dX8_stores_92 (by rw [e9]) (by rw [e9])
    ·
      refine v_aload_n X 1 dX8_stores_24 rfl rfl ?_
      refine v_getR (j := i_memory) (i := iMO) (k := 0) X (lt_MO ) (sh_MO ) rfl in_MO (by decide) wf_MO_7 rfl (fun _ => rfl) dX8_stores_25 ?_
      refine v_aload_n X 1 dX8_stores_28 rfl rfl ?_
      refine v_getR (j := i_from) (i := iMO) (k := 3) X (lt_MO ) (sh_MO ) rfl in_MO (by decide) wf_MO_19 rfl (fun _ => rfl) dX8_stores_29 ?_
      refine v_iload_n X 2 dX8_stores_32 rfl rfl ?_
      have hv33 : vp_in xa 4 := hq
      refine v_iald (i := i_from) (t0 := 0) X (lt_m_from ) (sh_m_from ) rfl hv33 dX8_stores_33 ?_
      refine v_iload_n X 3 dX8_stores_34 rfl rfl ?_
      refine v_iconst (v := 4) X dX8_stores_35 (by decide) ?_
      refine v_idiv X (by decide) dX8_stores_36 ?_
      refine v_iadd X dX8_stores_37 ?_
      refine v_iload_n X 4 dX8_stores_38 rfl rfl ?_
      have hv39 : vp_in ((σ i_from (xa).toNatClampNeg) + (xb / 4)) 96 := (ins_in hI hq h21)
      refine v_iast (i := i_memory) (t0 := 0) X (lt_m_memory ) (sh_m_memory ) rfl hv39 dX8_stores_39 ?_
      generalize hg39 : (up σ i_memory (((σ i_from (xa).toNatClampNeg) + (xb / 4))).toNatClampNeg xc) = g39
      have hI39 : Im g39 := by rw [← hg39]; exact (Im.upA hI (by decide))
      refine v_goto (tgt := 91) X dX8_stores_40 (by decide) ?_
      refine v_iconst (v := 0) X dX8_stores_91 (by decide) ?_
      have e9 : f_MO_stores xa xb xc σ = (0, g39) := by subst hg39; simp only [f_MO_stores, if_pos h10, if_neg h21]
      exact v_endI hend dX8_stores_92 (by rw [e9]) (by rw [e9])
  ·
    refine v_iconst (v := 2) X dX8_stores_13 (by decide) ?_
    have e9 : f_MO_stores xa xb xc σ = (2, σ) := by simp only [f_MO_stores, if_neg h10]
    exact v_endI hend dX8_stores_14 (by rw [e9]) (by rw [e9])
theorem I_MO_stores (xa : Int32) (xb : Int32) (xc : Int32) {σ : St} (hI : Im σ) (hq : vp_in xa 4) : Im (f_MO_stores xa xb xc σ).2 := by
  unfold f_MO_stores
  exact (im_ite2 (fun _ => (im_ite2 (fun _ => (im_ite2 (fun _ => hI) (fun _ => (im_ite2 (fun _ => (Im.upA (Im.upA (Im.upA hI (by decide)) (by decide)) (by decide))) (fun _ => hI))))) (fun _ => (Im.upA hI (by decide))))) (fun _ => hI))
def lp_MO_fault_81 (xa : Int32) (xb : Int32) : Nat → Int32 → St → St
  | 0, _, σ => σ
  | k9 + 1, i3, σ => (if (σ i_size (xa).toNatClampNeg) ≤ i3 then (up (f_MO_clear xa σ) iMO 25 1) else (lp_MO_fault_81 xa xb k9 (i3 + 1) (up σ i_memory (((σ i_from (xa).toNatClampNeg) + i3)).toNatClampNeg (σ i_image (((xa * 32) + i3)).toNatClampNeg))))
set_option maxHeartbeats 4000000 in
set_option maxRecDepth 100000 in
theorem lc_MO_fault_81 (xa : Int32) (xb : Int32) (hq : vp_in xa 4) {p9 : Program} {e : Env} {s : State} {m : MethodId} {args : Array Value} {below : List Frame} {meth : Method} {c : Code} {A : Nat → Prop} {Q : State → Prop} (X : Cx p9 s m args meth c D (tyL cA) A cX8_fault 4 yX8_fault.cls) : ∀ (k9 : Nat) (i3 : Int32) (σ : St), (hI : Im σ) → (hi : 0 ≤ i3.toInt ∧ i3.toInt ≤ (σ i_size xa.toNatClampNeg).toInt) → ((σ i_size xa.toNatClampNeg).toInt - i3.toInt < (k9 : Int)) → (∀ (pc : Nat) (lv : List (Nat × Value)), decode cX8_fault pc = .ok (.return_, 1) → Vz p9 l e (Rz 1) s m args below meth c D A 4 rh (rcW rh cA) NW 0 0 Q pc lv [] (lp_MO_fault_81 xa xb k9 i3 σ)) → Vz p9 l e (Rz 1) s m args below meth c D A 4 rh (rcW rh cA) NW 0 0 Q 81 [(0, .ref (rh iMO)), (1, .int xa), (3, .int i3)] [] σ := by
  intro k9
  induction k9 with
  | zero =>
    intro i3 σ hI hi hmu hend
    exact absurd hmu (by omega)
  | succ k9 ih =>
    intro i3 σ hI hi hmu hend
    refine v_iload_n X 2 dX8_fault_81 rfl rfl ?_
    refine v_aload_n X 0 dX8_fault_82 rfl rfl ?_
    refine v_getR (j := i_size) (i := iMO) (k := 4) X (lt_MO ) (sh_MO ) rfl in_MO (by decide) wf_MO_22 rfl (fun _ => rfl) dX8_fault_83 ?_
    refine v_iload_n X 1 dX8_fault_86 rfl rfl ?_
    have hv87 : vp_in xa 4 := hq
    refine v_iald (i := i_size) (t0 := 0) X (lt_m_size ) (sh_m_size ) rfl hv87 dX8_fault_87 ?_
    refine v_icmp_ge X 121 dX8_fault_88 (by decide) (fun h88 => ?_) (fun h88 => ?_)
    ·
      refine v_aload_n X 0 dX8_fault_121 rfl rfl ?_
      refine v_iload_n X 1 dX8_fault_122 rfl rfl ?_
      refine v_callV_CV (rest := []) X [.int xa] (c_MO_clear xa σ (by assumption)) mf_MO_clear wi_MO_clear wl_MO_clear (lt_MO ) (sh_MO ) rfl wm_MO_124 rfl ⟨by decide, by decide⟩ (Nat.le_of_ble_eq_true rfl) ⟨by decide, by decide⟩ dX8_fault_123 ?_
      generalize hg123 : (f_MO_clear xa σ) = g123
      have hI123 : Im g123 := by rw [← hg123]; exact (I_MO_clear xa hI (by assumption))
      refine v_aload_n X 0 dX8_fault_126 rfl rfl ?_
      refine v_iconst (v := 1) X dX8_fault_127 (by decide) ?_
      refine v_put (i := iMO) (k := 25) (x := 1) (ty := .boolean) X (lt_MO ) (sh_MO ) rfl in_MO (by decide) tyX8 tyX8_ok nX8 wf_MO_118 rfl rfl rfl (zN (Or.inr rfl)) (zF (Or.inr rfl)) (fun _ => Nat.le_of_ble_eq_true rfl) (fun _ _ => rfl) dX8_fault_128 ?_
      generalize hg128 : (up g123 iMO 25 1) = g128
      have hI128 : Im g128 := by rw [← hg128]; exact (Im.upMO hI123 (by decide))
      have e9 : lp_MO_fault_81 xa xb (k9 + 1) i3 σ = g128 := by subst hg123; subst hg128; simp only [lp_MO_fault_81, if_pos h88]
      exact v_endV hend dX8_fault_131 e9
    ·
      refine v_aload_n X 0 dX8_fault_91 rfl rfl ?_
      refine v_getR (j := i_memory) (i := iMO) (k := 0) X (lt_MO ) (sh_MO ) rfl in_MO (by decide) wf_MO_7 rfl (fun _ => rfl) dX8_fault_92 ?_
      refine v_aload_n X 0 dX8_fault_95 rfl rfl ?_
      refine v_getR (j := i_from) (i := iMO) (k := 3) X (lt_MO ) (sh_MO ) rfl in_MO (by decide) wf_MO_19 rfl (fun _ => rfl) dX8_fault_96 ?_
      refine v_iload_n X 1 dX8_fault_99 rfl rfl ?_
      have hv100 : vp_in xa 4 := hq
      refine v_iald (i := i_from) (t0 := 0) X (lt_m_from ) (sh_m_from ) rfl hv100 dX8_fault_100 ?_
      refine v_iload_n X 2 dX8_fault_101 rfl rfl ?_
      refine v_iadd X dX8_fault_102 ?_
      refine v_aload_n X 0 dX8_fault_103 rfl rfl ?_
      refine v_getR (j := i_image) (i := iMO) (k := 1) X (lt_MO ) (sh_MO ) rfl in_MO (by decide) wf_MO_13 rfl (fun _ => rfl) dX8_fault_104 ?_
      refine v_iload_n X 1 dX8_fault_107 rfl rfl ?_
      refine v_bipush (v := 32) X dX8_fault_108 (by decide) ?_
      refine v_imul X dX8_fault_110 ?_
      refine v_iload_n X 2 dX8_fault_111 rfl rfl ?_
      refine v_iadd X dX8_fault_112 ?_
      have hv113 : vp_in ((xa * 32) + i3) 128 := (vimg hq (vin_mk hi.1 (by have u1 := (hI.1 _ (vin_lt hq)).2.2.1; have u8 := h88; rw [ile] at u8; omega)))
      refine v_iald (i := i_image) (t0 := 0) X (lt_m_image ) (sh_m_image ) rfl hv113 dX8_fault_113 ?_
      have hv114 : vp_in ((σ i_from (xa).toNatClampNeg) + i3) 96 := (fi_in hI hq hi.1 h88)
      refine v_iast (i := i_memory) (t0 := 0) X (lt_m_memory ) (sh_m_memory ) rfl hv114 dX8_fault_114 ?_
      generalize hg114 : (up σ i_memory (((σ i_from (xa).toNatClampNeg) + i3)).toNatClampNeg (σ i_image (((xa * 32) + i3)).toNatClampNeg)) = g114
      have hI114 : Im g114 := by rw [← hg114]; exact (Im.upA hI (by decide))
      refine v_iinc (v := (i3 + 1)) (lv' := [(3, .int (i3 + 1)), (0, .ref (rh iMO)), (1, .int xa)]) X 2 dX8_fault_115 rfl rfl (by decide) rfl ?_
      refine v_goto (tgt := 81) X dX8_fault_118 (by decide) ?_
      have e9 : lp_MO_fault_81 xa xb (k9 + 1) i3 σ = lp_MO_fault_81 xa xb k9 (i3 + 1) g114 := by subst hg114; simp only [lp_MO_fault_81, if_neg h88]
      rw [e9] at hend
      refine v_lv (lv' := [(0, .ref (rh iMO)), (1, .int xa), (3, .int (i3 + 1))]) [1, 2, 0] rfl ?_
      exact ih (i3 + 1) g114 hI114 ⟨by have u9 := i_succ h88; omega, by subst hg114; have u9 := i_succ h88; have u8 := h88; rw [ile] at u8; exact (show (i3 + 1).toInt ≤ (σ i_size xa.toNatClampNeg).toInt by omega)⟩ (by subst hg114; have u9 := i_succ h88; exact (show (σ i_size xa.toNatClampNeg).toInt - (i3 + 1).toInt < (k9 : Int) by omega)) hend
def f_MO_fault (xa : Int32) (xb : Int32) (σ : St) : St :=
  (if ((up (up σ i_faults (xa).toNatClampNeg ((σ i_faults (xa).toNatClampNeg) + 1)) i_kind (xa).toNatClampNeg xb) i_policy (xa).toNatClampNeg) = 2 then (up (up (up σ i_faults (xa).toNatClampNeg ((σ i_faults (xa).toNatClampNeg) + 1)) i_kind (xa).toNatClampNeg xb) i_pc (xa).toNatClampNeg (((up (up σ i_faults (xa).toNatClampNeg ((σ i_faults (xa).toNatClampNeg) + 1)) i_kind (xa).toNatClampNeg xb) i_pc (xa).toNatClampNeg) + 4)) else (if ((up (up σ i_faults (xa).toNatClampNeg ((σ i_faults (xa).toNatClampNeg) + 1)) i_kind (xa).toNatClampNeg xb) i_policy (xa).toNatClampNeg) = 0 then (up (up (up σ i_faults (xa).toNatClampNeg ((σ i_faults (xa).toNatClampNeg) + 1)) i_kind (xa).toNatClampNeg xb) i_ready (xa).toNatClampNeg 0) else (if ((up (up σ i_faults (xa).toNatClampNeg ((σ i_faults (xa).toNatClampNeg) + 1)) i_kind (xa).toNatClampNeg xb) i_restarts (xa).toNatClampNeg) = 3 then (up (up (up σ i_faults (xa).toNatClampNeg ((σ i_faults (xa).toNatClampNeg) + 1)) i_kind (xa).toNatClampNeg xb) i_ready (xa).toNatClampNeg 0) else (lp_MO_fault_81 xa xb 33 0 (up (up (up σ i_faults (xa).toNatClampNeg ((σ i_faults (xa).toNatClampNeg) + 1)) i_kind (xa).toNatClampNeg xb) i_restarts (xa).toNatClampNeg (((up (up σ i_faults (xa).toNatClampNeg ((σ i_faults (xa).toNatClampNeg) + 1)) i_kind (xa).toNatClampNeg xb) i_restarts (xa).toNatClampNeg) + 1))))))
set_option maxHeartbeats 4000000 in
set_option maxRecDepth 100000 in
theorem c_MO_fault (xa : Int32) (xb : Int32) (σ : St) (hI : Im σ) (hq : vp_in xa 4) : CV l D (tyL cA) rh (rcW rh cA) NW yX8_fault cX8_fault 4 1 [.ref (rh iMO), .int xa, .int xb] σ (f_MO_fault xa xb σ) := by
  refine CV.of rfl (Nat.le_of_ble_eq_true rfl) ?_
  intro p9 e s m args below meth c A Q X hend
  refine v_lv (lv' := [(0, .ref (rh iMO)), (1, .int xa), (2, .int xb)]) [0, 1, 2] rfl ?_
  refine v_aload_n X 0 dX8_fault_0 rfl rfl ?_
  refine v_getR (j := i_faults) (i := iMO) (k := 7) X (lt_MO ) (sh_MO ) rfl in_MO (by decide) wf_MO_31 rfl (fun _ => rfl) dX8_fault_1 ?_
  refine v_iload_n X 1 dX8_fault_4 rfl rfl ?_
  refine v_dup2 X dX8_fault_5 rfl rfl ?_
  have hv6 : vp_in xa 4 := hq
  refine v_iald (i := i_faults) (t0 := 0) X (lt_m_faults ) (sh_m_faults ) rfl hv6 dX8_fault_6 ?_
  refine v_iconst (v := 1) X dX8_fault_7 (by decide) ?_
  refine v_iadd X dX8_fault_8 ?_
  have hv9 : vp_in xa 4 := hq
  refine v_iast (i := i_faults) (t0 := 0) X (lt_m_faults ) (sh_m_faults ) rfl hv9 dX8_fault_9 ?_
  generalize hg9 : (up σ i_faults (xa).toNatClampNeg ((σ i_faults (xa).toNatClampNeg) + 1)) = g9
  have hI9 : Im g9 := by rw [← hg9]; exact (Im.upA hI (by decide))
  refine v_aload_n X 0 dX8_fault_10 rfl rfl ?_
  refine v_getR (j := i_kind) (i := iMO) (k := 8) X (lt_MO ) (sh_MO ) rfl in_MO (by decide) wf_MO_34 rfl (fun _ => rfl) dX8_fault_11 ?_
  refine v_iload_n X 1 dX8_fault_14 rfl rfl ?_
  refine v_iload_n X 2 dX8_fault_15 rfl rfl ?_
  have hv16 : vp_in xa 4 := hq
  refine v_iast (i := i_kind) (t0 := 0) X (lt_m_kind ) (sh_m_kind ) rfl hv16 dX8_fault_16 ?_
  generalize hg16 : (up g9 i_kind (xa).toNatClampNeg xb) = g16
  have hI16 : Im g16 := by rw [← hg16]; exact (Im.upA hI9 (by decide))
  refine v_aload_n X 0 dX8_fault_17 rfl rfl ?_
  refine v_getR (j := i_policy) (i := iMO) (k := 5) X (lt_MO ) (sh_MO ) rfl in_MO (by decide) wf_MO_25 rfl (fun _ => rfl) dX8_fault_18 ?_
  refine v_iload_n X 1 dX8_fault_21 rfl rfl ?_
  have hv22 : vp_in xa 4 := hq
  refine v_iald (i := i_policy) (t0 := 0) X (lt_m_policy ) (sh_m_policy ) rfl hv22 dX8_fault_22 ?_
  refine v_iconst (v := 2) X dX8_fault_23 (by decide) ?_
  refine v_icmp_ne X 40 dX8_fault_24 (by decide) (fun h24 => ?_) (fun h24 => ?_)
  ·
    refine v_aload_n X 0 dX8_fault_40 rfl rfl ?_
    refine v_getR (j := i_policy) (i := iMO) (k := 5) X (lt_MO ) (sh_MO ) rfl in_MO (by decide) wf_MO_25 rfl (fun _ => rfl) dX8_fault_41 ?_
    refine v_iload_n X 1 dX8_fault_44 rfl rfl ?_
    have hv45 : vp_in xa 4 := hq
    refine v_iald (i := i_policy) (t0 := 0) X (lt_m_policy ) (sh_m_policy ) rfl hv45 dX8_fault_45 ?_
    refine v_if_eq X 59 dX8_fault_46 (by decide) (fun h46 => ?_) (fun h46 => ?_)
    ·
      refine v_aload_n X 0 dX8_fault_59 rfl rfl ?_
      refine v_getR (j := i_ready) (i := iMO) (k := 12) X (lt_MO ) (sh_MO ) rfl in_MO (by decide) wf_MO_46 rfl (fun _ => rfl) dX8_fault_60 ?_
      refine v_iload_n X 1 dX8_fault_63 rfl rfl ?_
      refine v_iconst (v := 0) X dX8_fault_64 (by decide) ?_
      have hv65 : vp_in xa 4 := hq
      refine v_zast (i := i_ready) (t0 := 5) (x := 0) X (Or.inl rfl) (lt_m_ready ) (sh_m_ready ) rfl hv65 dX8_fault_65 ?_
      generalize hg65 : (up g16 i_ready (xa).toNatClampNeg 0) = g65
      have hI65 : Im g65 := by rw [← hg65]; exact (Im.upA hI16 (by decide))
      refine v_goto (tgt := 131) X dX8_fault_66 (by decide) ?_
      have e9 : f_MO_fault xa xb σ = g65 := by subst hg9; subst hg16; subst hg65; simp only [f_MO_fault, if_neg h24, if_pos h46]
      exact v_endV hend dX8_fault_131 e9
    ·
      refine v_aload_n X 0 dX8_fault_49 rfl rfl ?_
      refine v_getR (j := i_restarts) (i := iMO) (k := 9) X (lt_MO ) (sh_MO ) rfl in_MO (by decide) wf_MO_37 rfl (fun _ => rfl) dX8_fault_50 ?_
      refine v_iload_n X 1 dX8_fault_53 rfl rfl ?_
      have hv54 : vp_in xa 4 := hq
      refine v_iald (i := i_restarts) (t0 := 0) X (lt_m_restarts ) (sh_m_restarts ) rfl hv54 dX8_fault_54 ?_
      refine v_iconst (v := 3) X dX8_fault_55 (by decide) ?_
      refine v_icmp_ne X 69 dX8_fault_56 (by decide) (fun h56 => ?_) (fun h56 => ?_)
      ·
        refine v_aload_n X 0 dX8_fault_69 rfl rfl ?_
        refine v_getR (j := i_restarts) (i := iMO) (k := 9) X (lt_MO ) (sh_MO ) rfl in_MO (by decide) wf_MO_37 rfl (fun _ => rfl) dX8_fault_70 ?_
        refine v_iload_n X 1 dX8_fault_73 rfl rfl ?_
        refine v_dup2 X dX8_fault_74 rfl rfl ?_
        have hv75 : vp_in xa 4 := hq
        refine v_iald (i := i_restarts) (t0 := 0) X (lt_m_restarts ) (sh_m_restarts ) rfl hv75 dX8_fault_75 ?_
        refine v_iconst (v := 1) X dX8_fault_76 (by decide) ?_
        refine v_iadd X dX8_fault_77 ?_
        have hv78 : vp_in xa 4 := hq
        refine v_iast (i := i_restarts) (t0 := 0) X (lt_m_restarts ) (sh_m_restarts ) rfl hv78 dX8_fault_78 ?_
        generalize hg78 : (up g16 i_restarts (xa).toNatClampNeg ((g16 i_restarts (xa).toNatClampNeg) + 1)) = g78
        have hI78 : Im g78 := by rw [← hg78]; exact (Im.upA hI16 (by decide))
        refine v_iconst (v := 0) X dX8_fault_79 (by decide) ?_
        refine v_istore_n (lv' := [(3, .int 0), (0, .ref (rh iMO)), (1, .int xa), (2, .int xb)]) X dX8_fault_80 rfl (by decide) rfl ?_
        have e9 : f_MO_fault xa xb σ = lp_MO_fault_81 xa xb 33 0 g78 := by subst hg9; subst hg16; subst hg78; simp only [f_MO_fault, if_neg h24, if_neg h46, if_neg h56]
        rw [e9] at hend
        refine v_lv (lv' := [(0, .ref (rh iMO)), (1, .int xa), (3, .int 0)]) [1, 2, 0] rfl ?_
        exact lc_MO_fault_81 xa xb hq X 33 0 g78 hI78 ⟨by decide, by have u1 := ((hI78).1 _ (vin_lt hq)).2.1; rw [t0i]; exact u1⟩ (by have u1 := ((hI78).1 _ (vin_lt hq)).2.2.1; rw [t0i]; omega) hend
      ·
        refine v_aload_n X 0 dX8_fault_59 rfl rfl ?_
        refine v_getR (j := i_ready) (i := iMO) (k := 12) X (lt_MO ) (sh_MO ) rfl in_MO (by decide) wf_MO_46 rfl (fun _ => rfl) dX8_fault_60 ?_
        refine v_iload_n X 1 dX8_fault_63 rfl rfl ?_
        refine v_iconst (v := 0) X dX8_fault_64 (by decide) ?_
        have hv65 : vp_in xa 4 := hq
        refine v_zast (i := i_ready) (t0 := 5) (x := 0) X (Or.inl rfl) (lt_m_ready ) (sh_m_ready ) rfl hv65 dX8_fault_65 ?_
        generalize hg65 : (up g16 i_ready (xa).toNatClampNeg 0) = g65
        have hI65 : Im g65 := by rw [← hg65]; exact (Im.upA hI16 (by decide))
        refine v_goto (tgt := 131) X dX8_fault_66 (by decide) ?_
        have e9 : f_MO_fault xa xb σ = g65 := by subst hg9; subst hg16; subst hg65; simp only [f_MO_fault, if_neg h24, if_neg h46, if_pos h56]
        exact v_endV hend dX8_fault_131 e9
  ·
    refine v_aload_n X 0 dX8_fault_27 rfl rfl ?_
    refine v_getR (j := i_pc) (i := iMO) (k := 6) X (lt_MO ) (sh_MO ) rfl in_MO (by decide) wf_MO_28 rfl (fun _ => rfl) dX8_fault_28 ?_
    refine v_iload_n X 1 dX8_fault_31 rfl rfl ?_
    refine v_dup2 X dX8_fault_32 rfl rfl ?_
    have hv33 : vp_in xa 4 := hq
    refine v_iald (i := i_pc) (t0 := 0) X (lt_m_pc ) (sh_m_pc ) rfl hv33 dX8_fault_33 ?_
    refine v_iconst (v := 4) X dX8_fault_34 (by decide) ?_
    refine v_iadd X dX8_fault_35 ?_
    have hv36 : vp_in xa 4 := hq
    refine v_iast (i := i_pc) (t0 := 0) X (lt_m_pc ) (sh_m_pc ) rfl hv36 dX8_fault_36 ?_
    generalize hg36 : (up g16 i_pc (xa).toNatClampNeg ((g16 i_pc (xa).toNatClampNeg) + 4)) = g36
    have hI36 : Im g36 := by rw [← hg36]; exact (Im.upA hI16 (by decide))
    refine v_goto (tgt := 131) X dX8_fault_37 (by decide) ?_
    have e9 : f_MO_fault xa xb σ = g36 := by subst hg9; subst hg16; subst hg36; simp only [f_MO_fault, if_pos h24]
    exact v_endV hend dX8_fault_131 e9
theorem Il_MO_fault (xa xb : Int32) (hq : vp_in xa 4) : ∀ (k : Nat) (i : Int32) (σ : St), Im σ → Im (lp_MO_fault_81 xa xb k i σ) := by
  intro k
  induction k with
  | zero => intro i σ h; exact h
  | succ k ih =>
    intro i σ h
    simp only [lp_MO_fault_81]
    exact im_ite (fun _ => Im.upMO (I_MO_clear xa h hq) (by decide)) (fun _ => ih _ _ (Im.upA h (by decide)))
theorem I_MO_fault (xa xb : Int32) {σ : St} (hI : Im σ) (hq : vp_in xa 4) : Im (f_MO_fault xa xb σ) := by
  unfold f_MO_fault
  have h1 : Im (up σ i_faults xa.toNatClampNeg ((σ i_faults xa.toNatClampNeg) + 1)) := Im.upA hI (by decide)
  have h2 : Im (up (up σ i_faults xa.toNatClampNeg ((σ i_faults xa.toNatClampNeg) + 1)) i_kind xa.toNatClampNeg xb) := Im.upA h1 (by decide)
  exact im_ite (fun _ => Im.upA h2 (by decide)) (fun _ => im_ite (fun _ => Im.upA h2 (by decide)) (fun _ => im_ite (fun _ => Im.upA h2 (by decide)) (fun _ => Il_MO_fault xa xb hq _ _ _ (Im.upA h2 (by decide)))))
end CLS
