section CLS
variable {l : Launch} {D : va_G} {rh : Nat → Nat} {cA : Nat → ClassId}
def f_SM_mix (xa : Int32) (xb : Int32) : Int32 :=
  ((((xa * 31) + xb) * (-1640531535)) ^^^ (ushr (((xa * 31) + xb) * (-1640531535)) 15))
set_option maxHeartbeats 4000000 in
set_option maxRecDepth 100000 in
theorem c_SM_mix (xa : Int32) (xb : Int32) (σ : St) : CI l D (tyL cA) rh (rcW rh cA) NW yX7_mix cX7_mix 3 .int 0 [.int xa, .int xb] σ (f_SM_mix xa xb) σ := by
  refine CI.of rfl (Nat.le_of_ble_eq_true rfl) rfl ?_
  intro p9 e s m args below meth c A Q X hend
  refine v_lv (lv' := [(0, .int xa), (1, .int xb)]) [0, 1] rfl ?_
  refine v_iload_n X 0 dX7_mix_0 rfl rfl ?_
  refine v_bipush (v := 31) X dX7_mix_1 (by decide) ?_
  refine v_imul X dX7_mix_3 ?_
  refine v_iload_n X 1 dX7_mix_4 rfl rfl ?_
  refine v_iadd X dX7_mix_5 ?_
  refine v_ldc (v := (-1640531535)) X wk_SM_175 dX7_mix_6 ?_
  refine v_imul X dX7_mix_8 ?_
  refine v_istore_n (lv' := [(2, .int (((xa * 31) + xb) * (-1640531535))), (0, .int xa), (1, .int xb)]) X dX7_mix_9 rfl (by decide) rfl ?_
  refine v_iload_n X 0 dX7_mix_10 rfl rfl ?_
  refine v_iload_n X 0 dX7_mix_11 rfl rfl ?_
  refine v_bipush (v := 15) X dX7_mix_12 (by decide) ?_
  refine v_iushr X dX7_mix_14 ?_
  refine v_ixor X dX7_mix_15 ?_
  have e9 : f_SM_mix xa xb = ((((xa * 31) + xb) * (-1640531535)) ^^^ (ushr (((xa * 31) + xb) * (-1640531535)) 15)) := by simp only [f_SM_mix]
  exact v_endI hend dX7_mix_16 e9 rfl
def f_SM_within (xa : Int32) (xb : Int32) (xc : Int32) : Int32 :=
  ((if xa < xb then 0 else (if xc < xa then 0 else 1)) : Int32)
theorem z_SM_within (xa : Int32) (xb : Int32) (xc : Int32) : (f_SM_within xa xb xc) = 0 ∨ (f_SM_within xa xb xc) = 1 := by
  unfold f_SM_within
  repeat' first | exact Or.inl rfl | exact Or.inr rfl | apply z_ite | split
set_option maxHeartbeats 4000000 in
set_option maxRecDepth 100000 in
theorem c_SM_within (xa : Int32) (xb : Int32) (xc : Int32) (σ : St) : CI l D (tyL cA) rh (rcW rh cA) NW yX7_within cX7_within 3 .boolean 0 [.int xa, .int xb, .int xc] σ (f_SM_within xa xb xc) σ := by
  refine CI.of rfl (Nat.le_of_ble_eq_true rfl) (zN (z_SM_within ..)) ?_
  intro p9 e s m args below meth c A Q X hend
  refine v_lv (lv' := [(0, .int xa), (1, .int xb), (2, .int xc)]) [0, 1, 2] rfl ?_
  refine v_iload_n X 0 dX7_within_0 rfl rfl ?_
  refine v_iload_n X 1 dX7_within_1 rfl rfl ?_
  refine v_suff (pc2 := 15) (lv2 := [(0, .int xa), (1, .int xb), (2, .int xc)]) (st2 := [.int ((if xa < xb then 0 else (if xc < xa then 0 else 1)) : Int32)]) (σ2 := σ) ?_ (fun J2 => ?_)
  rotate_left
  ·
    refine v_icmp_lt X 14 dX7_within_2 (by decide) (fun h2 => ?_) (fun h2 => ?_)
    ·
      refine v_iconst (v := 0) X dX7_within_14 (by decide) ?_
      have e9 : (((if xa < xb then 0 else (if xc < xa then 0 else 1)) : Int32) : Int32) = 0 := by simp only [if_pos h2]
      rw [e9] at J2
      exact J2
    ·
      refine v_iload_n X 0 dX7_within_5 rfl rfl ?_
      refine v_iload_n X 2 dX7_within_6 rfl rfl ?_
      refine v_icmp_gt X 14 dX7_within_7 (by decide) (fun h7 => ?_) (fun h7 => ?_)
      ·
        refine v_iconst (v := 0) X dX7_within_14 (by decide) ?_
        have e9 : (((if xa < xb then 0 else (if xc < xa then 0 else 1)) : Int32) : Int32) = 0 := by simp only [if_neg h2, if_pos h7]
        rw [e9] at J2
        exact J2
      ·
        refine v_iconst (v := 1) X dX7_within_10 (by decide) ?_
        refine v_goto (tgt := 15) X dX7_within_11 (by decide) ?_
        have e9 : (((if xa < xb then 0 else (if xc < xa then 0 else 1)) : Int32) : Int32) = 1 := by simp only [if_neg h2, if_neg h7]
        rw [e9] at J2
        exact J2
  have e9 : f_SM_within xa xb xc = ((if xa < xb then 0 else (if xc < xa then 0 else 1)) : Int32) := by simp only [f_SM_within]
  exact v_endI hend dX7_within_15 e9 rfl
def f_SM_isPartition (xa : Int32) : Int32 :=
  (f_SM_within xa 0 3)
theorem z_SM_isPartition (xa : Int32) : (f_SM_isPartition xa) = 0 ∨ (f_SM_isPartition xa) = 1 := by
  unfold f_SM_isPartition
  repeat' first | exact Or.inl rfl | exact Or.inr rfl | exact z_SM_within .. | apply z_ite | split
set_option maxHeartbeats 4000000 in
set_option maxRecDepth 100000 in
theorem c_SM_isPartition (xa : Int32) (σ : St) : CI l D (tyL cA) rh (rcW rh cA) NW yX7_isPartition cX7_isPartition 1 .boolean 1 [.int xa] σ (f_SM_isPartition xa) σ := by
  refine CI.of rfl (Nat.le_of_ble_eq_true rfl) (zN (z_SM_isPartition ..)) ?_
  intro p9 e s m args below meth c A Q X hend
  refine v_lv (lv' := [(0, .int xa)]) [0] rfl ?_
  refine v_iload_n X 0 dX7_isPartition_0 rfl rfl ?_
  refine v_iconst (v := 0) X dX7_isPartition_1 (by decide) ?_
  refine v_iconst (v := 3) X dX7_isPartition_2 (by decide) ?_
  refine v_callS_CI (rest := []) X [.int xa, .int 0, .int 3] (c_SM_within xa 0 3 σ ) mf_SM_within ws_SM_within wm_SM_40 rfl ⟨by decide, by decide⟩ (Nat.le_of_ble_eq_true rfl) ⟨by decide, by decide⟩ dX7_isPartition_3 ?_
  have e9 : f_SM_isPartition xa = (f_SM_within xa 0 3) := by simp only [f_SM_isPartition]
  exact v_endI hend dX7_isPartition_6 e9 rfl
def f_SM_isChannel (xa : Int32) : Int32 :=
  (f_SM_within xa 0 3)
theorem z_SM_isChannel (xa : Int32) : (f_SM_isChannel xa) = 0 ∨ (f_SM_isChannel xa) = 1 := by
  unfold f_SM_isChannel
  repeat' first | exact Or.inl rfl | exact Or.inr rfl | exact z_SM_within .. | apply z_ite | split
set_option maxHeartbeats 4000000 in
set_option maxRecDepth 100000 in
theorem c_SM_isChannel (xa : Int32) (σ : St) : CI l D (tyL cA) rh (rcW rh cA) NW yX7_isChannel cX7_isChannel 1 .boolean 1 [.int xa] σ (f_SM_isChannel xa) σ := by
  refine CI.of rfl (Nat.le_of_ble_eq_true rfl) (zN (z_SM_isChannel ..)) ?_
  intro p9 e s m args below meth c A Q X hend
  refine v_lv (lv' := [(0, .int xa)]) [0] rfl ?_
  refine v_iload_n X 0 dX7_isChannel_0 rfl rfl ?_
  refine v_iconst (v := 0) X dX7_isChannel_1 (by decide) ?_
  refine v_iconst (v := 3) X dX7_isChannel_2 (by decide) ?_
  refine v_callS_CI (rest := []) X [.int xa, .int 0, .int 3] (c_SM_within xa 0 3 σ ) mf_SM_within ws_SM_within wm_SM_40 rfl ⟨by decide, by decide⟩ (Nat.le_of_ble_eq_true rfl) ⟨by decide, by decide⟩ dX7_isChannel_3 ?_
  have e9 : f_SM_isChannel xa = (f_SM_within xa 0 3) := by simp only [f_SM_isChannel]
  exact v_endI hend dX7_isChannel_6 e9 rfl
def f_SM_isWord (xa : Int32) : Int32 :=
  (f_SM_within xa 0 95)
theorem z_SM_isWord (xa : Int32) : (f_SM_isWord xa) = 0 ∨ (f_SM_isWord xa) = 1 := by
  unfold f_SM_isWord
  repeat' first | exact Or.inl rfl | exact Or.inr rfl | exact z_SM_within .. | apply z_ite | split
set_option maxHeartbeats 4000000 in
set_option maxRecDepth 100000 in
theorem c_SM_isWord (xa : Int32) (σ : St) : CI l D (tyL cA) rh (rcW rh cA) NW yX7_isWord cX7_isWord 1 .boolean 1 [.int xa] σ (f_SM_isWord xa) σ := by
  refine CI.of rfl (Nat.le_of_ble_eq_true rfl) (zN (z_SM_isWord ..)) ?_
  intro p9 e s m args below meth c A Q X hend
  refine v_lv (lv' := [(0, .int xa)]) [0] rfl ?_
  refine v_iload_n X 0 dX7_isWord_0 rfl rfl ?_
  refine v_iconst (v := 0) X dX7_isWord_1 (by decide) ?_
  refine v_bipush (v := 95) X dX7_isWord_2 (by decide) ?_
  refine v_callS_CI (rest := []) X [.int xa, .int 0, .int 95] (c_SM_within xa 0 95 σ ) mf_SM_within ws_SM_within wm_SM_40 rfl ⟨by decide, by decide⟩ (Nat.le_of_ble_eq_true rfl) ⟨by decide, by decide⟩ dX7_isWord_4 ?_
  have e9 : f_SM_isWord xa = (f_SM_within xa 0 95) := by simp only [f_SM_isWord]
  exact v_endI hend dX7_isWord_7 e9 rfl
def f_CH_clear (p : Nat) (σ : St) : St :=
  (up σ (iC p) 3 0)
set_option maxHeartbeats 4000000 in
set_option maxRecDepth 100000 in
theorem c_CH_clear {p : Nat} (hp : p < 4) (σ : St) : CV l D (tyL cA) rh (rcW rh cA) NW yX0_clear cX0_clear 1 0 [.ref (rh (iC p))] σ (f_CH_clear p σ) := by
  refine CV.of rfl (Nat.le_of_ble_eq_true rfl) ?_
  intro p9 e s m args below meth c A Q X hend
  refine v_lv (lv' := [(0, .ref (rh (iC p)))]) [0] rfl ?_
  refine v_aload_n X 0 dX0_clear_0 rfl rfl ?_
  refine v_iconst (v := 0) X dX0_clear_1 (by decide) ?_
  refine v_put (i := (iC p)) (k := 3) (x := 0) (ty := .boolean) X (lt_CH hp) (sh_CH hp) rfl in_CH (by decide) tyX0 tyX0_ok nX0 wf_CH_21 rfl rfl rfl (zN (Or.inl rfl)) (zF (Or.inl rfl)) (fun _ => Nat.le_of_ble_eq_true rfl) (fun _ _ => rfl) dX0_clear_2 ?_
  have e9 : f_CH_clear p σ = (up σ (iC p) 3 0) := by simp only [f_CH_clear]
  exact v_endV hend dX0_clear_5 e9
theorem I_CH_clear (p : Nat) {σ : St} (hI : Ic σ) : Ic (f_CH_clear p σ) := by
  unfold f_CH_clear
  exact (Ic.upCH hI)
def f_CH_write (p : Nat) (xa : Int32) (xb : Int32) (σ : St) : St :=
  (up (up (up σ (iC p) 3 1) (iC p) 4 xa) (iC p) 5 xb)
set_option maxHeartbeats 4000000 in
set_option maxRecDepth 100000 in
theorem c_CH_write {p : Nat} (hp : p < 4) (xa : Int32) (xb : Int32) (σ : St) : CV l D (tyL cA) rh (rcW rh cA) NW yX0_write cX0_write 3 0 [.ref (rh (iC p)), .int xa, .int xb] σ (f_CH_write p xa xb σ) := by
  refine CV.of rfl (Nat.le_of_ble_eq_true rfl) ?_
  intro p9 e s m args below meth c A Q X hend
  refine v_lv (lv' := [(0, .ref (rh (iC p))), (1, .int xa), (2, .int xb)]) [0, 1, 2] rfl ?_
  refine v_aload_n X 0 dX0_write_0 rfl rfl ?_
  refine v_iconst (v := 1) X dX0_write_1 (by decide) ?_
  refine v_put (i := (iC p)) (k := 3) (x := 1) (ty := .boolean) X (lt_CH hp) (sh_CH hp) rfl in_CH (by decide) tyX0 tyX0_ok nX0 wf_CH_21 rfl rfl rfl (zN (Or.inr rfl)) (zF (Or.inr rfl)) (fun _ => Nat.le_of_ble_eq_true rfl) (fun _ _ => rfl) dX0_write_2 ?_
  refine v_aload_n X 0 dX0_write_5 rfl rfl ?_
  refine v_iload_n X 1 dX0_write_6 rfl rfl ?_
  refine v_put (i := (iC p)) (k := 4) (x := xa) (ty := .int) X (lt_CH hp) (sh_CH hp) rfl in_CH (by decide) tyX0 tyX0_ok nX0 wf_CH_25 rfl rfl rfl rfl rfl (fun _ => Nat.le_of_ble_eq_true rfl) (fun _ _ => rfl) dX0_write_7 ?_
  refine v_aload_n X 0 dX0_write_10 rfl rfl ?_
  refine v_iload_n X 2 dX0_write_11 rfl rfl ?_
  refine v_put (i := (iC p)) (k := 5) (x := xb) (ty := .int) X (lt_CH hp) (sh_CH hp) rfl in_CH (by decide) tyX0 tyX0_ok nX0 wf_CH_28 rfl rfl rfl rfl rfl (fun _ => Nat.le_of_ble_eq_true rfl) (fun _ _ => rfl) dX0_write_12 ?_
  have e9 : f_CH_write p xa xb σ = (up (up (up σ (iC p) 3 1) (iC p) 4 xa) (iC p) 5 xb) := by simp only [f_CH_write]
  exact v_endV hend dX0_write_15 e9
theorem I_CH_write (p : Nat) (xa : Int32) (xb : Int32) {σ : St} (hI : Ic σ) : Ic (f_CH_write p xa xb σ) := by
  unfold f_CH_write
  exact (Ic.upCH (Ic.upCH (Ic.upCH hI)))
def f_CH_valueOrZero (p : Nat) (σ : St) : Int32 :=
  ((if (σ (iC p) 3) = 0 then 0 else (σ (iC p) 4)) : Int32)
set_option maxHeartbeats 4000000 in
set_option maxRecDepth 100000 in
theorem c_CH_valueOrZero {p : Nat} (hp : p < 4) (σ : St) : CI l D (tyL cA) rh (rcW rh cA) NW yX0_valueOrZero cX0_valueOrZero 1 .int 0 [.ref (rh (iC p))] σ (f_CH_valueOrZero p σ) σ := by
  refine CI.of rfl (Nat.le_of_ble_eq_true rfl) rfl ?_
  intro p9 e s m args below meth c A Q X hend
  refine v_lv (lv' := [(0, .ref (rh (iC p)))]) [0] rfl ?_
  refine v_aload_n X 0 dX0_valueOrZero_0 rfl rfl ?_
  refine v_getI (i := (iC p)) (k := 3) X (lt_CH hp) (sh_CH hp) rfl in_CH (by decide) wf_CH_21 rfl (fun _ => rfl) dX0_valueOrZero_1 ?_
  refine v_suff (pc2 := 15) (lv2 := [(0, .ref (rh (iC p)))]) (st2 := [.int ((if (σ (iC p) 3) = 0 then 0 else (σ (iC p) 4)) : Int32)]) (σ2 := σ) ?_ (fun J4 => ?_)
  rotate_left
  ·
    refine v_if_eq X 14 dX0_valueOrZero_4 (by decide) (fun h4 => ?_) (fun h4 => ?_)
    ·
      refine v_iconst (v := 0) X dX0_valueOrZero_14 (by decide) ?_
      have e9 : (((if (σ (iC p) 3) = 0 then 0 else (σ (iC p) 4)) : Int32) : Int32) = 0 := by simp only [if_pos h4]
      rw [e9] at J4
      exact J4
    ·
      refine v_aload_n X 0 dX0_valueOrZero_7 rfl rfl ?_
      refine v_getI (i := (iC p)) (k := 4) X (lt_CH hp) (sh_CH hp) rfl in_CH (by decide) wf_CH_25 rfl (fun _ => rfl) dX0_valueOrZero_8 ?_
      refine v_goto (tgt := 15) X dX0_valueOrZero_11 (by decide) ?_
      have e9 : (((if (σ (iC p) 3) = 0 then 0 else (σ (iC p) 4)) : Int32) : Int32) = (σ (iC p) 4) := by simp only [if_neg h4]
      rw [e9] at J4
      exact J4
  have e9 : f_CH_valueOrZero p σ = ((if (σ (iC p) 3) = 0 then 0 else (σ (iC p) 4)) : Int32) := by simp only [f_CH_valueOrZero]
  exact v_endI hend dX0_valueOrZero_15 e9 rfl
def f_CH_hourOrNone (p : Nat) (σ : St) : Int32 :=
  ((if (σ (iC p) 3) = 0 then (-1) else (σ (iC p) 5)) : Int32)
set_option maxHeartbeats 4000000 in
set_option maxRecDepth 100000 in
theorem c_CH_hourOrNone {p : Nat} (hp : p < 4) (σ : St) : CI l D (tyL cA) rh (rcW rh cA) NW yX0_hourOrNone cX0_hourOrNone 1 .int 0 [.ref (rh (iC p))] σ (f_CH_hourOrNone p σ) σ := by
  refine CI.of rfl (Nat.le_of_ble_eq_true rfl) rfl ?_
  intro p9 e s m args below meth c A Q X hend
  refine v_lv (lv' := [(0, .ref (rh (iC p)))]) [0] rfl ?_
  refine v_aload_n X 0 dX0_hourOrNone_0 rfl rfl ?_
  refine v_getI (i := (iC p)) (k := 3) X (lt_CH hp) (sh_CH hp) rfl in_CH (by decide) wf_CH_21 rfl (fun _ => rfl) dX0_hourOrNone_1 ?_
  refine v_suff (pc2 := 15) (lv2 := [(0, .ref (rh (iC p)))]) (st2 := [.int ((if (σ (iC p) 3) = 0 then (-1) else (σ (iC p) 5)) : Int32)]) (σ2 := σ) ?_ (fun J4 => ?_)
  rotate_left
  ·
    refine v_if_eq X 14 dX0_hourOrNone_4 (by decide) (fun h4 => ?_) (fun h4 => ?_)
    ·
      refine v_iconst (v := (-1)) X dX0_hourOrNone_14 (by decide) ?_
      have e9 : (((if (σ (iC p) 3) = 0 then (-1) else (σ (iC p) 5)) : Int32) : Int32) = (-1) := by simp only [if_pos h4]
      rw [e9] at J4
      exact J4
    ·
      refine v_aload_n X 0 dX0_hourOrNone_7 rfl rfl ?_
      refine v_getI (i := (iC p)) (k := 5) X (lt_CH hp) (sh_CH hp) rfl in_CH (by decide) wf_CH_28 rfl (fun _ => rfl) dX0_hourOrNone_8 ?_
      refine v_goto (tgt := 15) X dX0_hourOrNone_11 (by decide) ?_
      have e9 : (((if (σ (iC p) 3) = 0 then (-1) else (σ (iC p) 5)) : Int32) : Int32) = (σ (iC p) 5) := by simp only [if_neg h4]
      rw [e9] at J4
      exact J4
  have e9 : f_CH_hourOrNone p σ = ((if (σ (iC p) 3) = 0 then (-1) else (σ (iC p) 5)) : Int32) := by simp only [f_CH_hourOrNone]
  exact v_endI hend dX0_hourOrNone_15 e9 rfl
def f_CH_age (p : Nat) (xa : Int32) (σ : St) : Int32 :=
  ((if (σ (iC p) 3) = 0 then (-1) else (if (σ (iC p) 2) < (xa - (σ (iC p) 5)) then (-1) else (xa - (σ (iC p) 5)))) : Int32)
set_option maxHeartbeats 4000000 in
set_option maxRecDepth 100000 in
theorem c_CH_age {p : Nat} (hp : p < 4) (xa : Int32) (σ : St) : CI l D (tyL cA) rh (rcW rh cA) NW yX0_age cX0_age 2 .int 0 [.ref (rh (iC p)), .int xa] σ (f_CH_age p xa σ) σ := by
  refine CI.of rfl (Nat.le_of_ble_eq_true rfl) rfl ?_
  intro p9 e s m args below meth c A Q X hend
  refine v_lv (lv' := [(0, .ref (rh (iC p))), (1, .int xa)]) [0, 1] rfl ?_
  refine v_aload_n X 0 dX0_age_0 rfl rfl ?_
  refine v_getI (i := (iC p)) (k := 3) X (lt_CH hp) (sh_CH hp) rfl in_CH (by decide) wf_CH_21 rfl (fun _ => rfl) dX0_age_1 ?_
  refine v_suff (pc2 := 30) (lv2 := [(0, .ref (rh (iC p))), (1, .int xa)]) (st2 := [.int ((if (σ (iC p) 3) = 0 then (-1) else (if (σ (iC p) 2) < (xa - (σ (iC p) 5)) then (-1) else (xa - (σ (iC p) 5)))) : Int32)]) (σ2 := σ) ?_ (fun J4 => ?_)
  rotate_left
  ·
    refine v_if_eq X 29 dX0_age_4 (by decide) (fun h4 => ?_) (fun h4 => ?_)
    ·
      refine v_iconst (v := (-1)) X dX0_age_29 (by decide) ?_
      have e9 : (((if (σ (iC p) 3) = 0 then (-1) else (if (σ (iC p) 2) < (xa - (σ (iC p) 5)) then (-1) else (xa - (σ (iC p) 5)))) : Int32) : Int32) = (-1) := by simp only [if_pos h4]
      rw [e9] at J4
      exact J4
    ·
      refine v_iload_n X 1 dX0_age_7 rfl rfl ?_
      refine v_aload_n X 0 dX0_age_8 rfl rfl ?_
      refine v_getI (i := (iC p)) (k := 5) X (lt_CH hp) (sh_CH hp) rfl in_CH (by decide) wf_CH_28 rfl (fun _ => rfl) dX0_age_9 ?_
      refine v_isub X dX0_age_12 ?_
      refine v_aload_n X 0 dX0_age_13 rfl rfl ?_
      refine v_getI (i := (iC p)) (k := 2) X (lt_CH hp) (sh_CH hp) rfl in_CH (by decide) wf_CH_18 rfl (fun _ => rfl) dX0_age_14 ?_
      refine v_icmp_gt X 29 dX0_age_17 (by decide) (fun h17 => ?_) (fun h17 => ?_)
      ·
        refine v_iconst (v := (-1)) X dX0_age_29 (by decide) ?_
        have e9 : (((if (σ (iC p) 3) = 0 then (-1) else (if (σ (iC p) 2) < (xa - (σ (iC p) 5)) then (-1) else (xa - (σ (iC p) 5)))) : Int32) : Int32) = (-1) := by simp only [if_neg h4, if_pos h17]
        rw [e9] at J4
        exact J4
      ·
        refine v_iload_n X 1 dX0_age_20 rfl rfl ?_
        refine v_aload_n X 0 dX0_age_21 rfl rfl ?_
        refine v_getI (i := (iC p)) (k := 5) X (lt_CH hp) (sh_CH hp) rfl in_CH (by decide) wf_CH_28 rfl (fun _ => rfl) dX0_age_22 ?_
        refine v_isub X dX0_age_25 ?_
        refine v_goto (tgt := 30) X dX0_age_26 (by decide) ?_
        have e9 : (((if (σ (iC p) 3) = 0 then (-1) else (if (σ (iC p) 2) < (xa - (σ (iC p) 5)) then (-1) else (xa - (σ (iC p) 5)))) : Int32) : Int32) = (xa - (σ (iC p) 5)) := by simp only [if_neg h4, if_neg h17]
        rw [e9] at J4
        exact J4
  have e9 : f_CH_age p xa σ = ((if (σ (iC p) 3) = 0 then (-1) else (if (σ (iC p) 2) < (xa - (σ (iC p) 5)) then (-1) else (xa - (σ (iC p) 5)))) : Int32) := by simp only [f_CH_age]
  exact v_endI hend dX0_age_30 e9 rfl
def f_CO_o (xa : Int32) : Int32 :=
  (xa &&& 127)
set_option maxHeartbeats 4000000 in
set_option maxRecDepth 100000 in
theorem c_CO_o (xa : Int32) (σ : St) : CI l D (tyL cA) rh (rcW rh cA) NW yX1_o cX1_o 1 .int 0 [.int xa] σ (f_CO_o xa) σ := by
  refine CI.of rfl (Nat.le_of_ble_eq_true rfl) rfl ?_
  intro p9 e s m args below meth c A Q X hend
  refine v_lv (lv' := [(0, .int xa)]) [0] rfl ?_
  refine v_iload_n X 0 dX1_o_0 rfl rfl ?_
  refine v_bipush (v := 127) X dX1_o_1 (by decide) ?_
  refine v_iand X dX1_o_3 ?_
  have e9 : f_CO_o xa = (xa &&& 127) := by simp only [f_CO_o]
  exact v_endI hend dX1_o_4 e9 rfl
def f_CO_f (xa : Int32) : Int32 :=
  ((ushr xa 12) &&& 7)
set_option maxHeartbeats 4000000 in
set_option maxRecDepth 100000 in
theorem c_CO_f (xa : Int32) (σ : St) : CI l D (tyL cA) rh (rcW rh cA) NW yX1_f cX1_f 1 .int 0 [.int xa] σ (f_CO_f xa) σ := by
  refine CI.of rfl (Nat.le_of_ble_eq_true rfl) rfl ?_
  intro p9 e s m args below meth c A Q X hend
  refine v_lv (lv' := [(0, .int xa)]) [0] rfl ?_
  refine v_iload_n X 0 dX1_f_0 rfl rfl ?_
  refine v_bipush (v := 12) X dX1_f_1 (by decide) ?_
  refine v_iushr X dX1_f_3 ?_
  refine v_bipush (v := 7) X dX1_f_4 (by decide) ?_
  refine v_iand X dX1_f_6 ?_
  have e9 : f_CO_f xa = ((ushr xa 12) &&& 7) := by simp only [f_CO_f]
  exact v_endI hend dX1_f_7 e9 rfl
def f_CO_g (xa : Int32) : Int32 :=
  (ushr xa 25)
set_option maxHeartbeats 4000000 in
set_option maxRecDepth 100000 in
theorem c_CO_g (xa : Int32) (σ : St) : CI l D (tyL cA) rh (rcW rh cA) NW yX1_g cX1_g 1 .int 0 [.int xa] σ (f_CO_g xa) σ := by
  refine CI.of rfl (Nat.le_of_ble_eq_true rfl) rfl ?_
  intro p9 e s m args below meth c A Q X hend
  refine v_lv (lv' := [(0, .int xa)]) [0] rfl ?_
  refine v_iload_n X 0 dX1_g_0 rfl rfl ?_
  refine v_bipush (v := 25) X dX1_g_1 (by decide) ?_
  refine v_iushr X dX1_g_3 ?_
  have e9 : f_CO_g xa = (ushr xa 25) := by simp only [f_CO_g]
  exact v_endI hend dX1_g_4 e9 rfl
def f_CO_rd (xa : Int32) : Int32 :=
  ((ushr xa 7) &&& 31)
set_option maxHeartbeats 4000000 in
set_option maxRecDepth 100000 in
theorem c_CO_rd (xa : Int32) (σ : St) : CI l D (tyL cA) rh (rcW rh cA) NW yX1_rd cX1_rd 1 .int 0 [.int xa] σ (f_CO_rd xa) σ := by
  refine CI.of rfl (Nat.le_of_ble_eq_true rfl) rfl ?_
  intro p9 e s m args below meth c A Q X hend
  refine v_lv (lv' := [(0, .int xa)]) [0] rfl ?_
  refine v_iload_n X 0 dX1_rd_0 rfl rfl ?_
  refine v_bipush (v := 7) X dX1_rd_1 (by decide) ?_
  refine v_iushr X dX1_rd_3 ?_
  refine v_bipush (v := 31) X dX1_rd_4 (by decide) ?_
  refine v_iand X dX1_rd_6 ?_
  have e9 : f_CO_rd xa = ((ushr xa 7) &&& 31) := by simp only [f_CO_rd]
  exact v_endI hend dX1_rd_7 e9 rfl
def f_CO_rs1 (xa : Int32) : Int32 :=
  ((ushr xa 15) &&& 31)
set_option maxHeartbeats 4000000 in
set_option maxRecDepth 100000 in
theorem c_CO_rs1 (xa : Int32) (σ : St) : CI l D (tyL cA) rh (rcW rh cA) NW yX1_rs1 cX1_rs1 1 .int 0 [.int xa] σ (f_CO_rs1 xa) σ := by
  refine CI.of rfl (Nat.le_of_ble_eq_true rfl) rfl ?_
  intro p9 e s m args below meth c A Q X hend
  refine v_lv (lv' := [(0, .int xa)]) [0] rfl ?_
  refine v_iload_n X 0 dX1_rs1_0 rfl rfl ?_
  refine v_bipush (v := 15) X dX1_rs1_1 (by decide) ?_
  refine v_iushr X dX1_rs1_3 ?_
  refine v_bipush (v := 31) X dX1_rs1_4 (by decide) ?_
  refine v_iand X dX1_rs1_6 ?_
  have e9 : f_CO_rs1 xa = ((ushr xa 15) &&& 31) := by simp only [f_CO_rs1]
  exact v_endI hend dX1_rs1_7 e9 rfl
def f_CO_rs2 (xa : Int32) : Int32 :=
  ((ushr xa 20) &&& 31)
set_option maxHeartbeats 4000000 in
set_option maxRecDepth 100000 in
theorem c_CO_rs2 (xa : Int32) (σ : St) : CI l D (tyL cA) rh (rcW rh cA) NW yX1_rs2 cX1_rs2 1 .int 0 [.int xa] σ (f_CO_rs2 xa) σ := by
  refine CI.of rfl (Nat.le_of_ble_eq_true rfl) rfl ?_
  intro p9 e s m args below meth c A Q X hend
  refine v_lv (lv' := [(0, .int xa)]) [0] rfl ?_
  refine v_iload_n X 0 dX1_rs2_0 rfl rfl ?_
  refine v_bipush (v := 20) X dX1_rs2_1 (by decide) ?_
  refine v_iushr X dX1_rs2_3 ?_
  refine v_bipush (v := 31) X dX1_rs2_4 (by decide) ?_
  refine v_iand X dX1_rs2_6 ?_
  have e9 : f_CO_rs2 xa = ((ushr xa 20) &&& 31) := by simp only [f_CO_rs2]
  exact v_endI hend dX1_rs2_7 e9 rfl
def f_CO_immediateI (xa : Int32) : Int32 :=
  (sshr xa 20)
set_option maxHeartbeats 4000000 in
set_option maxRecDepth 100000 in
theorem c_CO_immediateI (xa : Int32) (σ : St) : CI l D (tyL cA) rh (rcW rh cA) NW yX1_immediateI cX1_immediateI 1 .int 0 [.int xa] σ (f_CO_immediateI xa) σ := by
  refine CI.of rfl (Nat.le_of_ble_eq_true rfl) rfl ?_
  intro p9 e s m args below meth c A Q X hend
  refine v_lv (lv' := [(0, .int xa)]) [0] rfl ?_
  refine v_iload_n X 0 dX1_immediateI_0 rfl rfl ?_
  refine v_bipush (v := 20) X dX1_immediateI_1 (by decide) ?_
  refine v_ishr X dX1_immediateI_3 ?_
  have e9 : f_CO_immediateI xa = (sshr xa 20) := by simp only [f_CO_immediateI]
  exact v_endI hend dX1_immediateI_4 e9 rfl
def f_CO_immediateU (xa : Int32) : Int32 :=
  (xa &&& (-4096))
set_option maxHeartbeats 4000000 in
set_option maxRecDepth 100000 in
theorem c_CO_immediateU (xa : Int32) (σ : St) : CI l D (tyL cA) rh (rcW rh cA) NW yX1_immediateU cX1_immediateU 1 .int 0 [.int xa] σ (f_CO_immediateU xa) σ := by
  refine CI.of rfl (Nat.le_of_ble_eq_true rfl) rfl ?_
  intro p9 e s m args below meth c A Q X hend
  refine v_lv (lv' := [(0, .int xa)]) [0] rfl ?_
  refine v_iload_n X 0 dX1_immediateU_0 rfl rfl ?_
  refine v_sipush (v := (-4096)) X dX1_immediateU_1 (by decide) ?_
  refine v_iand X dX1_immediateU_4 ?_
  have e9 : f_CO_immediateU xa = (xa &&& (-4096)) := by simp only [f_CO_immediateU]
  exact v_endI hend dX1_immediateU_5 e9 rfl
def f_CO_immediateS (xa : Int32) : Int32 :=
  ((shl (sshr xa 25) 5) ||| ((ushr xa 7) &&& 31))
set_option maxHeartbeats 4000000 in
set_option maxRecDepth 100000 in
theorem c_CO_immediateS (xa : Int32) (σ : St) : CI l D (tyL cA) rh (rcW rh cA) NW yX1_immediateS cX1_immediateS 1 .int 0 [.int xa] σ (f_CO_immediateS xa) σ := by
  refine CI.of rfl (Nat.le_of_ble_eq_true rfl) rfl ?_
  intro p9 e s m args below meth c A Q X hend
  refine v_lv (lv' := [(0, .int xa)]) [0] rfl ?_
  refine v_iload_n X 0 dX1_immediateS_0 rfl rfl ?_
  refine v_bipush (v := 25) X dX1_immediateS_1 (by decide) ?_
  refine v_ishr X dX1_immediateS_3 ?_
  refine v_iconst (v := 5) X dX1_immediateS_4 (by decide) ?_
  refine v_ishl X dX1_immediateS_5 ?_
  refine v_iload_n X 0 dX1_immediateS_6 rfl rfl ?_
  refine v_bipush (v := 7) X dX1_immediateS_7 (by decide) ?_
  refine v_iushr X dX1_immediateS_9 ?_
  refine v_bipush (v := 31) X dX1_immediateS_10 (by decide) ?_
  refine v_iand X dX1_immediateS_12 ?_
  refine v_ior X dX1_immediateS_13 ?_
  have e9 : f_CO_immediateS xa = ((shl (sshr xa 25) 5) ||| ((ushr xa 7) &&& 31)) := by simp only [f_CO_immediateS]
  exact v_endI hend dX1_immediateS_14 e9 rfl
def f_CO_immediateB (xa : Int32) : Int32 :=
  ((((shl (sshr xa 31) 12) ||| (shl ((ushr xa 7) &&& 1) 11)) ||| (shl ((ushr xa 25) &&& 63) 5)) ||| (shl ((ushr xa 8) &&& 15) 1))
set_option maxHeartbeats 4000000 in
set_option maxRecDepth 100000 in
theorem c_CO_immediateB (xa : Int32) (σ : St) : CI l D (tyL cA) rh (rcW rh cA) NW yX1_immediateB cX1_immediateB 1 .int 0 [.int xa] σ (f_CO_immediateB xa) σ := by
  refine CI.of rfl (Nat.le_of_ble_eq_true rfl) rfl ?_
  intro p9 e s m args below meth c A Q X hend
  refine v_lv (lv' := [(0, .int xa)]) [0] rfl ?_
  refine v_iload_n X 0 dX1_immediateB_0 rfl rfl ?_
  refine v_bipush (v := 31) X dX1_immediateB_1 (by decide) ?_
  refine v_ishr X dX1_immediateB_3 ?_
  refine v_bipush (v := 12) X dX1_immediateB_4 (by decide) ?_
  refine v_ishl X dX1_immediateB_6 ?_
  refine v_iload_n X 0 dX1_immediateB_7 rfl rfl ?_
  refine v_bipush (v := 7) X dX1_immediateB_8 (by decide) ?_
  refine v_iushr X dX1_immediateB_10 ?_
  refine v_iconst (v := 1) X dX1_immediateB_11 (by decide) ?_
  refine v_iand X dX1_immediateB_12 ?_
  refine v_bipush (v := 11) X dX1_immediateB_13 (by decide) ?_
  refine v_ishl X dX1_immediateB_15 ?_
  refine v_ior X dX1_immediateB_16 ?_
  refine v_iload_n X 0 dX1_immediateB_17 rfl rfl ?_
  refine v_bipush (v := 25) X dX1_immediateB_18 (by decide) ?_
  refine v_iushr X dX1_immediateB_20 ?_
  refine v_bipush (v := 63) X dX1_immediateB_21 (by decide) ?_
  refine v_iand X dX1_immediateB_23 ?_
  refine v_iconst (v := 5) X dX1_immediateB_24 (by decide) ?_
  refine v_ishl X dX1_immediateB_25 ?_
  refine v_ior X dX1_immediateB_26 ?_
  refine v_iload_n X 0 dX1_immediateB_27 rfl rfl ?_
  refine v_bipush (v := 8) X dX1_immediateB_28 (by decide) ?_
  refine v_iushr X dX1_immediateB_30 ?_
  refine v_bipush (v := 15) X dX1_immediateB_31 (by decide) ?_
  refine v_iand X dX1_immediateB_33 ?_
  refine v_iconst (v := 1) X dX1_immediateB_34 (by decide) ?_
  refine v_ishl X dX1_immediateB_35 ?_
  refine v_ior X dX1_immediateB_36 ?_
  have e9 : f_CO_immediateB xa = ((((shl (sshr xa 31) 12) ||| (shl ((ushr xa 7) &&& 1) 11)) ||| (shl ((ushr xa 25) &&& 63) 5)) ||| (shl ((ushr xa 8) &&& 15) 1)) := by simp only [f_CO_immediateB]
  exact v_endI hend dX1_immediateB_37 e9 rfl
def f_CO_immediateJ (xa : Int32) : Int32 :=
  ((((shl (sshr xa 31) 20) ||| (shl ((ushr xa 12) &&& 255) 12)) ||| (shl ((ushr xa 20) &&& 1) 11)) ||| (shl ((ushr xa 21) &&& 1023) 1))
set_option maxHeartbeats 4000000 in
set_option maxRecDepth 100000 in
theorem c_CO_immediateJ (xa : Int32) (σ : St) : CI l D (tyL cA) rh (rcW rh cA) NW yX1_immediateJ cX1_immediateJ 1 .int 0 [.int xa] σ (f_CO_immediateJ xa) σ := by
  refine CI.of rfl (Nat.le_of_ble_eq_true rfl) rfl ?_
  intro p9 e s m args below meth c A Q X hend
  refine v_lv (lv' := [(0, .int xa)]) [0] rfl ?_
  refine v_iload_n X 0 dX1_immediateJ_0 rfl rfl ?_
  refine v_bipush (v := 31) X dX1_immediateJ_1 (by decide) ?_
  refine v_ishr X dX1_immediateJ_3 ?_
  refine v_bipush (v := 20) X dX1_immediateJ_4 (by decide) ?_
  refine v_ishl X dX1_immediateJ_6 ?_
  refine v_iload_n X 0 dX1_immediateJ_7 rfl rfl ?_
  refine v_bipush (v := 12) X dX1_immediateJ_8 (by decide) ?_
  refine v_iushr X dX1_immediateJ_10 ?_
  refine v_sipush (v := 255) X dX1_immediateJ_11 (by decide) ?_
  refine v_iand X dX1_immediateJ_14 ?_
  refine v_bipush (v := 12) X dX1_immediateJ_15 (by decide) ?_
  refine v_ishl X dX1_immediateJ_17 ?_
  refine v_ior X dX1_immediateJ_18 ?_
  refine v_iload_n X 0 dX1_immediateJ_19 rfl rfl ?_
  refine v_bipush (v := 20) X dX1_immediateJ_20 (by decide) ?_
  refine v_iushr X dX1_immediateJ_22 ?_
  refine v_iconst (v := 1) X dX1_immediateJ_23 (by decide) ?_
  refine v_iand X dX1_immediateJ_24 ?_
  refine v_bipush (v := 11) X dX1_immediateJ_25 (by decide) ?_
  refine v_ishl X dX1_immediateJ_27 ?_
  refine v_ior X dX1_immediateJ_28 ?_
  refine v_iload_n X 0 dX1_immediateJ_29 rfl rfl ?_
  refine v_bipush (v := 21) X dX1_immediateJ_30 (by decide) ?_
  refine v_iushr X dX1_immediateJ_32 ?_
  refine v_sipush (v := 1023) X dX1_immediateJ_33 (by decide) ?_
  refine v_iand X dX1_immediateJ_36 ?_
  refine v_iconst (v := 1) X dX1_immediateJ_37 (by decide) ?_
  refine v_ishl X dX1_immediateJ_38 ?_
  refine v_ior X dX1_immediateJ_39 ?_
  have e9 : f_CO_immediateJ xa = ((((shl (sshr xa 31) 20) ||| (shl ((ushr xa 12) &&& 255) 12)) ||| (shl ((ushr xa 20) &&& 1) 11)) ||| (shl ((ushr xa 21) &&& 1023) 1)) := by simp only [f_CO_immediateJ]
  exact v_endI hend dX1_immediateJ_40 e9 rfl
def f_CO_isKnownWithImmediate (xa : Int32) (xb : Int32) : Int32 :=
  (if xa = 1 then ((if xb = 0 then 1 else 0) : Int32) else ((if xa = 5 then (if xb = 0 then 1 else (if xb = 32 then 1 else 0)) else 1) : Int32))
theorem z_CO_isKnownWithImmediate (xa : Int32) (xb : Int32) : (f_CO_isKnownWithImmediate xa xb) = 0 ∨ (f_CO_isKnownWithImmediate xa xb) = 1 := by
  unfold f_CO_isKnownWithImmediate
  repeat' first | exact Or.inl rfl | exact Or.inr rfl | apply z_ite | split
set_option maxHeartbeats 4000000 in
set_option maxRecDepth 100000 in
theorem c_CO_isKnownWithImmediate (xa : Int32) (xb : Int32) (σ : St) : CI l D (tyL cA) rh (rcW rh cA) NW yX1_isKnownWithImmediate cX1_isKnownWithImmediate 2 .boolean 0 [.int xa, .int xb] σ (f_CO_isKnownWithImmediate xa xb) σ := by
  refine CI.of rfl (Nat.le_of_ble_eq_true rfl) (zN (z_CO_isKnownWithImmediate ..)) ?_
  intro p9 e s m args below meth c A Q X hend
  refine v_lv (lv' := [(0, .int xa), (1, .int xb)]) [0, 1] rfl ?_
  refine v_iload_n X 0 dX1_isKnownWithImmediate_0 rfl rfl ?_
  refine v_iconst (v := 1) X dX1_isKnownWithImmediate_1 (by decide) ?_
  refine v_icmp_ne X 15 dX1_isKnownWithImmediate_2 (by decide) (fun h2 => ?_) (fun h2 => ?_)
  ·
    refine v_iload_n X 0 dX1_isKnownWithImmediate_15 rfl rfl ?_
    refine v_iconst (v := 5) X dX1_isKnownWithImmediate_16 (by decide) ?_
    refine v_suff (pc2 := 35) (lv2 := [(0, .int xa), (1, .int xb)]) (st2 := [.int ((if xa = 5 then (if xb = 0 then 1 else (if xb = 32 then 1 else 0)) else 1) : Int32)]) (σ2 := σ) ?_ (fun J17 => ?_)
    rotate_left
    ·
      refine v_icmp_ne X 30 dX1_isKnownWithImmediate_17 (by decide) (fun h17 => ?_) (fun h17 => ?_)
      ·
        refine v_iconst (v := 1) X dX1_isKnownWithImmediate_30 (by decide) ?_
        refine v_goto (tgt := 35) X dX1_isKnownWithImmediate_31 (by decide) ?_
        have e9 : (((if xa = 5 then (if xb = 0 then 1 else (if xb = 32 then 1 else 0)) else 1) : Int32) : Int32) = 1 := by simp only [if_neg h17]
        rw [e9] at J17
        exact J17
      ·
        refine v_iload_n X 1 dX1_isKnownWithImmediate_20 rfl rfl ?_
        refine v_if_eq X 30 dX1_isKnownWithImmediate_21 (by decide) (fun h21 => ?_) (fun h21 => ?_)
        ·
          refine v_iconst (v := 1) X dX1_isKnownWithImmediate_30 (by decide) ?_
          refine v_goto (tgt := 35) X dX1_isKnownWithImmediate_31 (by decide) ?_
          have e9 : (((if xa = 5 then (if xb = 0 then 1 else (if xb = 32 then 1 else 0)) else 1) : Int32) : Int32) = 1 := by simp only [if_pos h17, if_pos h21]
          rw [e9] at J17
          exact J17
        ·
          refine v_iload_n X 1 dX1_isKnownWithImmediate_24 rfl rfl ?_
          refine v_bipush (v := 32) X dX1_isKnownWithImmediate_25 (by decide) ?_
          refine v_icmp_ne X 34 dX1_isKnownWithImmediate_27 (by decide) (fun h27 => ?_) (fun h27 => ?_)
          ·
            refine v_iconst (v := 0) X dX1_isKnownWithImmediate_34 (by decide) ?_
            have e9 : (((if xa = 5 then (if xb = 0 then 1 else (if xb = 32 then 1 else 0)) else 1) : Int32) : Int32) = 0 := by simp only [if_pos h17, if_neg h21, if_neg h27]
            rw [e9] at J17
            exact J17
          ·
            refine v_iconst (v := 1) X dX1_isKnownWithImmediate_30 (by decide) ?_
            refine v_goto (tgt := 35) X dX1_isKnownWithImmediate_31 (by decide) ?_
            have e9 : (((if xa = 5 then (if xb = 0 then 1 else (if xb = 32 then 1 else 0)) else 1) : Int32) : Int32) = 1 := by simp only [if_pos h17, if_neg h21, if_pos h27]
            rw [e9] at J17
            exact J17
    have e9 : f_CO_isKnownWithImmediate xa xb = ((if xa = 5 then (if xb = 0 then 1 else (if xb = 32 then 1 else 0)) else 1) : Int32) := by simp only [f_CO_isKnownWithImmediate, if_neg h2]
    exact v_endI hend dX1_isKnownWithImmediate_35 e9 rfl
  ·
    refine v_iload_n X 1 dX1_isKnownWithImmediate_5 rfl rfl ?_
    refine v_suff (pc2 := 14) (lv2 := [(0, .int xa), (1, .int xb)]) (st2 := [.int ((if xb = 0 then 1 else 0) : Int32)]) (σ2 := σ) ?_ (fun J6 => ?_)
    rotate_left
    ·
      refine v_if_ne X 13 dX1_isKnownWithImmediate_6 (by decide) (fun h6 => ?_) (fun h6 => ?_)
      ·
        refine v_iconst (v := 0) X dX1_isKnownWithImmediate_13 (by decide) ?_
        have e9 : (((if xb = 0 then 1 else 0) : Int32) : Int32) = 0 := by simp only [if_neg h6]
        rw [e9] at J6
        exact J6
      ·
        refine v_iconst (v := 1) X dX1_isKnownWithImmediate_9 (by decide) ?_
        refine v_goto (tgt := 14) X dX1_isKnownWithImmediate_10 (by decide) ?_
        have e9 : (((if xb = 0 then 1 else 0) : Int32) : Int32) = 1 := by simp only [if_pos h6]
        rw [e9] at J6
        exact J6
    have e9 : f_CO_isKnownWithImmediate xa xb = ((if xb = 0 then 1 else 0) : Int32) := by simp only [f_CO_isKnownWithImmediate, if_pos h2]
    exact v_endI hend dX1_isKnownWithImmediate_14 e9 rfl
def f_CO_isKnownWithRegister (xa : Int32) (xb : Int32) : Int32 :=
  ((if xb = 0 then 1 else (if xb = 32 then (if xa = 0 then 1 else (if xa = 5 then 1 else 0)) else 0)) : Int32)
theorem z_CO_isKnownWithRegister (xa : Int32) (xb : Int32) : (f_CO_isKnownWithRegister xa xb) = 0 ∨ (f_CO_isKnownWithRegister xa xb) = 1 := by
  unfold f_CO_isKnownWithRegister
  repeat' first | exact Or.inl rfl | exact Or.inr rfl | apply z_ite | split
set_option maxHeartbeats 4000000 in
set_option maxRecDepth 100000 in
theorem c_CO_isKnownWithRegister (xa : Int32) (xb : Int32) (σ : St) : CI l D (tyL cA) rh (rcW rh cA) NW yX1_isKnownWithRegister cX1_isKnownWithRegister 2 .boolean 0 [.int xa, .int xb] σ (f_CO_isKnownWithRegister xa xb) σ := by
  refine CI.of rfl (Nat.le_of_ble_eq_true rfl) (zN (z_CO_isKnownWithRegister ..)) ?_
  intro p9 e s m args below meth c A Q X hend
  refine v_lv (lv' := [(0, .int xa), (1, .int xb)]) [0, 1] rfl ?_
  refine v_iload_n X 1 dX1_isKnownWithRegister_0 rfl rfl ?_
  refine v_suff (pc2 := 24) (lv2 := [(0, .int xa), (1, .int xb)]) (st2 := [.int ((if xb = 0 then 1 else (if xb = 32 then (if xa = 0 then 1 else (if xa = 5 then 1 else 0)) else 0)) : Int32)]) (σ2 := σ) ?_ (fun J1 => ?_)
  rotate_left
  ·
    refine v_if_eq X 19 dX1_isKnownWithRegister_1 (by decide) (fun h1 => ?_) (fun h1 => ?_)
    ·
      refine v_iconst (v := 1) X dX1_isKnownWithRegister_19 (by decide) ?_
      refine v_goto (tgt := 24) X dX1_isKnownWithRegister_20 (by decide) ?_
      have e9 : (((if xb = 0 then 1 else (if xb = 32 then (if xa = 0 then 1 else (if xa = 5 then 1 else 0)) else 0)) : Int32) : Int32) = 1 := by simp only [if_pos h1]
      rw [e9] at J1
      exact J1
    ·
      refine v_iload_n X 1 dX1_isKnownWithRegister_4 rfl rfl ?_
      refine v_bipush (v := 32) X dX1_isKnownWithRegister_5 (by decide) ?_
      refine v_icmp_ne X 23 dX1_isKnownWithRegister_7 (by decide) (fun h7 => ?_) (fun h7 => ?_)
      ·
        refine v_iconst (v := 0) X dX1_isKnownWithRegister_23 (by decide) ?_
        have e9 : (((if xb = 0 then 1 else (if xb = 32 then (if xa = 0 then 1 else (if xa = 5 then 1 else 0)) else 0)) : Int32) : Int32) = 0 := by simp only [if_neg h1, if_neg h7]
        rw [e9] at J1
        exact J1
      ·
        refine v_iload_n X 0 dX1_isKnownWithRegister_10 rfl rfl ?_
        refine v_if_eq X 19 dX1_isKnownWithRegister_11 (by decide) (fun h11 => ?_) (fun h11 => ?_)
        ·
          refine v_iconst (v := 1) X dX1_isKnownWithRegister_19 (by decide) ?_
          refine v_goto (tgt := 24) X dX1_isKnownWithRegister_20 (by decide) ?_
          have e9 : (((if xb = 0 then 1 else (if xb = 32 then (if xa = 0 then 1 else (if xa = 5 then 1 else 0)) else 0)) : Int32) : Int32) = 1 := by simp only [if_neg h1, if_pos h7, if_pos h11]
          rw [e9] at J1
          exact J1
        ·
          refine v_iload_n X 0 dX1_isKnownWithRegister_14 rfl rfl ?_
          refine v_iconst (v := 5) X dX1_isKnownWithRegister_15 (by decide) ?_
          refine v_icmp_ne X 23 dX1_isKnownWithRegister_16 (by decide) (fun h16 => ?_) (fun h16 => ?_)
          ·
            refine v_iconst (v := 0) X dX1_isKnownWithRegister_23 (by decide) ?_
            have e9 : (((if xb = 0 then 1 else (if xb = 32 then (if xa = 0 then 1 else (if xa = 5 then 1 else 0)) else 0)) : Int32) : Int32) = 0 := by simp only [if_neg h1, if_pos h7, if_neg h11, if_neg h16]
            rw [e9] at J1
            exact J1
          ·
            refine v_iconst (v := 1) X dX1_isKnownWithRegister_19 (by decide) ?_
            refine v_goto (tgt := 24) X dX1_isKnownWithRegister_20 (by decide) ?_
            have e9 : (((if xb = 0 then 1 else (if xb = 32 then (if xa = 0 then 1 else (if xa = 5 then 1 else 0)) else 0)) : Int32) : Int32) = 1 := by simp only [if_neg h1, if_pos h7, if_neg h11, if_pos h16]
            rw [e9] at J1
            exact J1
  have e9 : f_CO_isKnownWithRegister xa xb = ((if xb = 0 then 1 else (if xb = 32 then (if xa = 0 then 1 else (if xa = 5 then 1 else 0)) else 0)) : Int32) := by simp only [f_CO_isKnownWithRegister]
  exact v_endI hend dX1_isKnownWithRegister_24 e9 rfl
def f_CO_isKnown (xa : Int32) : Int32 :=
  (if (f_CO_o xa) = 3 then ((if (f_CO_f xa) = 2 then (if ((if 16 ≤ (f_CO_rd xa) then 0 else 1) : Int32) = 0 then 0 else (if ((if 16 ≤ (f_CO_rs1 xa) then 0 else 1) : Int32) = 0 then 0 else 1)) else 0) : Int32) else (if (f_CO_o xa) = 19 then ((if ((if 16 ≤ (f_CO_rd xa) then 0 else 1) : Int32) = 0 then 0 else (if ((if 16 ≤ (f_CO_rs1 xa) then 0 else 1) : Int32) = 0 then 0 else (if (f_CO_isKnownWithImmediate (f_CO_f xa) (f_CO_g xa)) = 0 then 0 else 1))) : Int32) else (if (f_CO_o xa) = 23 then ((if 16 ≤ (f_CO_rd xa) then 0 else 1) : Int32) else (if (f_CO_o xa) = 35 then ((if (f_CO_f xa) = 2 then (if ((if 16 ≤ (f_CO_rs1 xa) then 0 else 1) : Int32) = 0 then 0 else (if ((if 16 ≤ (f_CO_rs2 xa) then 0 else 1) : Int32) = 0 then 0 else 1)) else 0) : Int32) else (if (f_CO_o xa) = 51 then ((if ((if 16 ≤ (f_CO_rd xa) then 0 else 1) : Int32) = 0 then 0 else (if ((if 16 ≤ (f_CO_rs1 xa) then 0 else 1) : Int32) = 0 then 0 else (if ((if 16 ≤ (f_CO_rs2 xa) then 0 else 1) : Int32) = 0 then 0 else (if (f_CO_isKnownWithRegister (f_CO_f xa) (f_CO_g xa)) = 0 then 0 else 1)))) : Int32) else (if (f_CO_o xa) = 55 then ((if 16 ≤ (f_CO_rd xa) then 0 else 1) : Int32) else (if (f_CO_o xa) = 99 then ((if (f_CO_f xa) = 2 then 0 else (if (f_CO_f xa) = 3 then 0 else (if ((if 16 ≤ (f_CO_rs1 xa) then 0 else 1) : Int32) = 0 then 0 else (if ((if 16 ≤ (f_CO_rs2 xa) then 0 else 1) : Int32) = 0 then 0 else 1)))) : Int32) else (if (f_CO_o xa) = 103 then ((if (f_CO_f xa) = 0 then (if ((if 16 ≤ (f_CO_rd xa) then 0 else 1) : Int32) = 0 then 0 else (if ((if 16 ≤ (f_CO_rs1 xa) then 0 else 1) : Int32) = 0 then 0 else 1)) else 0) : Int32) else (if (f_CO_o xa) = 111 then ((if 16 ≤ (f_CO_rd xa) then 0 else 1) : Int32) else (if (f_CO_o xa) = 115 then ((if xa = 115 then 1 else (if xa = 1048691 then 1 else 0)) : Int32) else 0))))))))))
theorem z_CO_isKnown (xa : Int32) : (f_CO_isKnown xa) = 0 ∨ (f_CO_isKnown xa) = 1 := by
  unfold f_CO_isKnown
  repeat' first | exact Or.inl rfl | exact Or.inr rfl | exact z_CO_isKnownWithImmediate .. | exact z_CO_isKnownWithRegister .. | apply z_ite | split
set_option maxHeartbeats 4000000 in
set_option maxRecDepth 100000 in
theorem c_CO_isKnown (xa : Int32) (σ : St) : CI l D (tyL cA) rh (rcW rh cA) NW yX1_isKnown cX1_isKnown 4 .boolean 1 [.int xa] σ (f_CO_isKnown xa) σ := by
  refine CI.of rfl (Nat.le_of_ble_eq_true rfl) (zN (z_CO_isKnown ..)) ?_
  intro p9 e s m args below meth c A Q X hend
  refine v_lv (lv' := [(0, .int xa)]) [0] rfl ?_
  refine v_iload_n X 0 dX1_isKnown_0 rfl rfl ?_
  refine v_callS_CI (rest := []) X [.int xa] (c_CO_rd xa σ ) mf_CO_rd ws_CO_rd wm_CO_9 rfl ⟨by decide, by decide⟩ (Nat.le_of_ble_eq_true rfl) ⟨by decide, by decide⟩ dX1_isKnown_1 ?_
  refine v_bipush (v := 16) X dX1_isKnown_4 (by decide) ?_
  refine v_suff (pc2 := 14) (lv2 := [(0, .int xa)]) (st2 := [.int ((if 16 ≤ (f_CO_rd xa) then 0 else 1) : Int32)]) (σ2 := σ) ?_ (fun J6 => ?_)
  rotate_left
  ·
    refine v_icmp_ge X 13 dX1_isKnown_6 (by decide) (fun h6 => ?_) (fun h6 => ?_)
    ·
      refine v_iconst (v := 0) X dX1_isKnown_13 (by decide) ?_
      have e9 : (((if 16 ≤ (f_CO_rd xa) then 0 else 1) : Int32) : Int32) = 0 := by simp only [if_pos h6]
      rw [e9] at J6
      exact J6
    ·
      refine v_iconst (v := 1) X dX1_isKnown_9 (by decide) ?_
      refine v_goto (tgt := 14) X dX1_isKnown_10 (by decide) ?_
      have e9 : (((if 16 ≤ (f_CO_rd xa) then 0 else 1) : Int32) : Int32) = 1 := by simp only [if_neg h6]
      rw [e9] at J6
      exact J6
  refine v_istore_n (lv' := [(1, .int ((if 16 ≤ (f_CO_rd xa) then 0 else 1) : Int32)), (0, .int xa)]) X dX1_isKnown_14 rfl (by decide) rfl ?_
  refine v_iload_n X 1 dX1_isKnown_15 rfl rfl ?_
  refine v_callS_CI (rest := []) X [.int xa] (c_CO_rs1 xa σ ) mf_CO_rs1 ws_CO_rs1 wm_CO_15 rfl ⟨by decide, by decide⟩ (Nat.le_of_ble_eq_true rfl) ⟨by decide, by decide⟩ dX1_isKnown_16 ?_
  refine v_bipush (v := 16) X dX1_isKnown_19 (by decide) ?_
  refine v_suff (pc2 := 29) (lv2 := [(1, .int ((if 16 ≤ (f_CO_rd xa) then 0 else 1) : Int32)), (0, .int xa)]) (st2 := [.int ((if 16 ≤ (f_CO_rs1 xa) then 0 else 1) : Int32)]) (σ2 := σ) ?_ (fun J21 => ?_)
  rotate_left
  ·
    refine v_icmp_ge X 28 dX1_isKnown_21 (by decide) (fun h21 => ?_) (fun h21 => ?_)
    ·
      refine v_iconst (v := 0) X dX1_isKnown_28 (by decide) ?_
      have e9 : (((if 16 ≤ (f_CO_rs1 xa) then 0 else 1) : Int32) : Int32) = 0 := by simp only [if_pos h21]
      rw [e9] at J21
      exact J21
    ·
      refine v_iconst (v := 1) X dX1_isKnown_24 (by decide) ?_
      refine v_goto (tgt := 29) X dX1_isKnown_25 (by decide) ?_
      have e9 : (((if 16 ≤ (f_CO_rs1 xa) then 0 else 1) : Int32) : Int32) = 1 := by simp only [if_neg h21]
      rw [e9] at J21
      exact J21
  refine v_istore_n (lv' := [(2, .int ((if 16 ≤ (f_CO_rs1 xa) then 0 else 1) : Int32)), (1, .int ((if 16 ≤ (f_CO_rd xa) then 0 else 1) : Int32)), (0, .int xa)]) X dX1_isKnown_29 rfl (by decide) rfl ?_
  refine v_iload_n X 2 dX1_isKnown_30 rfl rfl ?_
  refine v_callS_CI (rest := []) X [.int xa] (c_CO_rs2 xa σ ) mf_CO_rs2 ws_CO_rs2 wm_CO_18 rfl ⟨by decide, by decide⟩ (Nat.le_of_ble_eq_true rfl) ⟨by decide, by decide⟩ dX1_isKnown_31 ?_
  refine v_bipush (v := 16) X dX1_isKnown_34 (by decide) ?_
  refine v_suff (pc2 := 44) (lv2 := [(2, .int ((if 16 ≤ (f_CO_rs1 xa) then 0 else 1) : Int32)), (1, .int ((if 16 ≤ (f_CO_rd xa) then 0 else 1) : Int32)), (0, .int xa)]) (st2 := [.int ((if 16 ≤ (f_CO_rs2 xa) then 0 else 1) : Int32)]) (σ2 := σ) ?_ (fun J36 => ?_)
  rotate_left
  ·
    refine v_icmp_ge X 43 dX1_isKnown_36 (by decide) (fun h36 => ?_) (fun h36 => ?_)
    ·
      refine v_iconst (v := 0) X dX1_isKnown_43 (by decide) ?_
      have e9 : (((if 16 ≤ (f_CO_rs2 xa) then 0 else 1) : Int32) : Int32) = 0 := by simp only [if_pos h36]
      rw [e9] at J36
      exact J36
    ·
      refine v_iconst (v := 1) X dX1_isKnown_39 (by decide) ?_
      refine v_goto (tgt := 44) X dX1_isKnown_40 (by decide) ?_
      have e9 : (((if 16 ≤ (f_CO_rs2 xa) then 0 else 1) : Int32) : Int32) = 1 := by simp only [if_neg h36]
      rw [e9] at J36
      exact J36
  refine v_istore_n (lv' := [(3, .int ((if 16 ≤ (f_CO_rs2 xa) then 0 else 1) : Int32)), (2, .int ((if 16 ≤ (f_CO_rs1 xa) then 0 else 1) : Int32)), (1, .int ((if 16 ≤ (f_CO_rd xa) then 0 else 1) : Int32)), (0, .int xa)]) X dX1_isKnown_44 rfl (by decide) rfl ?_
  refine v_iload_n X 3 dX1_isKnown_45 rfl rfl ?_
  refine v_callS_CI (rest := []) X [.int xa] (c_CO_o xa σ ) mf_CO_o ws_CO_o wm_CO_21 rfl ⟨by decide, by decide⟩ (Nat.le_of_ble_eq_true rfl) ⟨by decide, by decide⟩ dX1_isKnown_46 ?_
  by_cases h49_0 : (f_CO_o xa) = 3
  ·
    refine v_lsw (off := 144) X 193 dX1_isKnown_49 (by decide) (by rw [h49_0] <;> rfl) (by decide) ?_
    refine v_iload_n X 3 dX1_isKnown_193 rfl rfl ?_
    refine v_callS_CI (rest := []) X [.int xa] (c_CO_f xa σ ) mf_CO_f ws_CO_f wm_CO_24 rfl ⟨by decide, by decide⟩ (Nat.le_of_ble_eq_true rfl) ⟨by decide, by decide⟩ dX1_isKnown_194 ?_
    refine v_iconst (v := 2) X dX1_isKnown_197 (by decide) ?_
    refine v_suff (pc2 := 214) (lv2 := [(3, .int ((if 16 ≤ (f_CO_rs2 xa) then 0 else 1) : Int32)), (2, .int ((if 16 ≤ (f_CO_rs1 xa) then 0 else 1) : Int32)), (1, .int ((if 16 ≤ (f_CO_rd xa) then 0 else 1) : Int32)), (0, .int xa)]) (st2 := [.int ((if (f_CO_f xa) = 2 then (if ((if 16 ≤ (f_CO_rd xa) then 0 else 1) : Int32) = 0 then 0 else (if ((if 16 ≤ (f_CO_rs1 xa) then 0 else 1) : Int32) = 0 then 0 else 1)) else 0) : Int32)]) (σ2 := σ) ?_ (fun J198 => ?_)
    rotate_left
    ·
      refine v_icmp_ne X 213 dX1_isKnown_198 (by decide) (fun h198 => ?_) (fun h198 => ?_)
      ·
        refine v_iconst (v := 0) X dX1_isKnown_213 (by decide) ?_
        have e9 : (((if (f_CO_f xa) = 2 then (if ((if 16 ≤ (f_CO_rd xa) then 0 else 1) : Int32) = 0 then 0 else (if ((if 16 ≤ (f_CO_rs1 xa) then 0 else 1) : Int32) = 0 then 0 else 1)) else 0) : Int32) : Int32) = 0 := by simp only [if_neg h198]
        rw [e9] at J198
        exact J198
      ·
        refine v_iload_n X 2 dX1_isKnown_201 rfl rfl ?_
        refine v_if_eq X 213 dX1_isKnown_202 (by decide) (fun h202 => ?_) (fun h202 => ?_)
        ·
          refine v_iconst (v := 0) X dX1_isKnown_213 (by decide) ?_
          have e9 : (((if (f_CO_f xa) = 2 then (if ((if 16 ≤ (f_CO_rd xa) then 0 else 1) : Int32) = 0 then 0 else (if ((if 16 ≤ (f_CO_rs1 xa) then 0 else 1) : Int32) = 0 then 0 else 1)) else 0) : Int32) : Int32) = 0 := by simp only [if_pos h198, if_pos h202]
          rw [e9] at J198
          exact J198
        ·
          refine v_iload_n X 1 dX1_isKnown_205 rfl rfl ?_
          refine v_if_eq X 213 dX1_isKnown_206 (by decide) (fun h206 => ?_) (fun h206 => ?_)
          ·
            refine v_iconst (v := 0) X dX1_isKnown_213 (by decide) ?_
            have e9 : (((if (f_CO_f xa) = 2 then (if ((if 16 ≤ (f_CO_rd xa) then 0 else 1) : Int32) = 0 then 0 else (if ((if 16 ≤ (f_CO_rs1 xa) then 0 else 1) : Int32) = 0 then 0 else 1)) else 0) : Int32) : Int32) = 0 := by simp only [if_pos h198, if_neg h202, if_pos h206]
            rw [e9] at J198
            exact J198
          ·
            refine v_iconst (v := 1) X dX1_isKnown_209 (by decide) ?_
            refine v_goto (tgt := 214) X dX1_isKnown_210 (by decide) ?_
            have e9 : (((if (f_CO_f xa) = 2 then (if ((if 16 ≤ (f_CO_rd xa) then 0 else 1) : Int32) = 0 then 0 else (if ((if 16 ≤ (f_CO_rs1 xa) then 0 else 1) : Int32) = 0 then 0 else 1)) else 0) : Int32) : Int32) = 1 := by simp only [if_pos h198, if_neg h202, if_neg h206]
            rw [e9] at J198
            exact J198
    have e9 : f_CO_isKnown xa = ((if (f_CO_f xa) = 2 then (if ((if 16 ≤ (f_CO_rd xa) then 0 else 1) : Int32) = 0 then 0 else (if ((if 16 ≤ (f_CO_rs1 xa) then 0 else 1) : Int32) = 0 then 0 else 1)) else 0) : Int32) := by simp only [f_CO_isKnown, if_pos h49_0]
    exact v_endI hend dX1_isKnown_214 e9 rfl
  by_cases h49_1 : (f_CO_o xa) = 19
  ·
    refine v_lsw (off := 188) X 237 dX1_isKnown_49 (by decide) (by rw [h49_1] <;> rfl) (by decide) ?_
    refine v_iload_n X 2 dX1_isKnown_237 rfl rfl ?_
    refine v_suff (pc2 := 264) (lv2 := [(3, .int ((if 16 ≤ (f_CO_rs2 xa) then 0 else 1) : Int32)), (2, .int ((if 16 ≤ (f_CO_rs1 xa) then 0 else 1) : Int32)), (1, .int ((if 16 ≤ (f_CO_rd xa) then 0 else 1) : Int32)), (0, .int xa)]) (st2 := [.int ((if ((if 16 ≤ (f_CO_rd xa) then 0 else 1) : Int32) = 0 then 0 else (if ((if 16 ≤ (f_CO_rs1 xa) then 0 else 1) : Int32) = 0 then 0 else (if (f_CO_isKnownWithImmediate (f_CO_f xa) (f_CO_g xa)) = 0 then 0 else 1))) : Int32)]) (σ2 := σ) ?_ (fun J238 => ?_)
    rotate_left
    ·
      refine v_if_eq X 263 dX1_isKnown_238 (by decide) (fun h238 => ?_) (fun h238 => ?_)
      ·
        refine v_iconst (v := 0) X dX1_isKnown_263 (by decide) ?_
        have e9 : (((if ((if 16 ≤ (f_CO_rd xa) then 0 else 1) : Int32) = 0 then 0 else (if ((if 16 ≤ (f_CO_rs1 xa) then 0 else 1) : Int32) = 0 then 0 else (if (f_CO_isKnownWithImmediate (f_CO_f xa) (f_CO_g xa)) = 0 then 0 else 1))) : Int32) : Int32) = 0 := by simp only [if_pos h238]
        rw [e9] at J238
        exact J238
      ·
        refine v_iload_n X 1 dX1_isKnown_241 rfl rfl ?_
        refine v_if_eq X 263 dX1_isKnown_242 (by decide) (fun h242 => ?_) (fun h242 => ?_)
        ·
          refine v_iconst (v := 0) X dX1_isKnown_263 (by decide) ?_
          have e9 : (((if ((if 16 ≤ (f_CO_rd xa) then 0 else 1) : Int32) = 0 then 0 else (if ((if 16 ≤ (f_CO_rs1 xa) then 0 else 1) : Int32) = 0 then 0 else (if (f_CO_isKnownWithImmediate (f_CO_f xa) (f_CO_g xa)) = 0 then 0 else 1))) : Int32) : Int32) = 0 := by simp only [if_neg h238, if_pos h242]
          rw [e9] at J238
          exact J238
        ·
          refine v_iload_n X 3 dX1_isKnown_245 rfl rfl ?_
          refine v_callS_CI (rest := []) X [.int xa] (c_CO_f xa σ ) mf_CO_f ws_CO_f wm_CO_24 rfl ⟨by decide, by decide⟩ (Nat.le_of_ble_eq_true rfl) ⟨by decide, by decide⟩ dX1_isKnown_246 ?_
          refine v_iload_n X 3 dX1_isKnown_249 rfl rfl ?_
          refine v_callS_CI (rest := [.int (f_CO_f xa)]) X [.int xa] (c_CO_g xa σ ) mf_CO_g ws_CO_g wm_CO_27 rfl ⟨by decide, by decide⟩ (Nat.le_of_ble_eq_true rfl) ⟨by decide, by decide⟩ dX1_isKnown_250 ?_
          refine v_callS_CI (rest := []) X [.int (f_CO_f xa), .int (f_CO_g xa)] (c_CO_isKnownWithImmediate (f_CO_f xa) (f_CO_g xa) σ ) mf_CO_isKnownWithImmediate ws_CO_isKnownWithImmediate wm_CO_30 rfl ⟨by decide, by decide⟩ (Nat.le_of_ble_eq_true rfl) ⟨by decide, by decide⟩ dX1_isKnown_253 ?_
          refine v_if_eq X 263 dX1_isKnown_256 (by decide) (fun h256 => ?_) (fun h256 => ?_)
          ·
            refine v_iconst (v := 0) X dX1_isKnown_263 (by decide) ?_
            have e9 : (((if ((if 16 ≤ (f_CO_rd xa) then 0 else 1) : Int32) = 0 then 0 else (if ((if 16 ≤ (f_CO_rs1 xa) then 0 else 1) : Int32) = 0 then 0 else (if (f_CO_isKnownWithImmediate (f_CO_f xa) (f_CO_g xa)) = 0 then 0 else 1))) : Int32) : Int32) = 0 := by simp only [if_neg h238, if_neg h242, if_pos h256]
            rw [e9] at J238
            exact J238
          ·
            refine v_iconst (v := 1) X dX1_isKnown_259 (by decide) ?_
            refine v_goto (tgt := 264) X dX1_isKnown_260 (by decide) ?_
            have e9 : (((if ((if 16 ≤ (f_CO_rd xa) then 0 else 1) : Int32) = 0 then 0 else (if ((if 16 ≤ (f_CO_rs1 xa) then 0 else 1) : Int32) = 0 then 0 else (if (f_CO_isKnownWithImmediate (f_CO_f xa) (f_CO_g xa)) = 0 then 0 else 1))) : Int32) : Int32) = 1 := by simp only [if_neg h238, if_neg h242, if_neg h256]
            rw [e9] at J238
            exact J238
    have e9 : f_CO_isKnown xa = ((if ((if 16 ≤ (f_CO_rd xa) then 0 else 1) : Int32) = 0 then 0 else (if ((if 16 ≤ (f_CO_rs1 xa) then 0 else 1) : Int32) = 0 then 0 else (if (f_CO_isKnownWithImmediate (f_CO_f xa) (f_CO_g xa)) = 0 then 0 else 1))) : Int32) := by simp only [f_CO_isKnown, if_neg h49_0, if_pos h49_1]
    exact v_endI hend dX1_isKnown_264 e9 rfl
  by_cases h49_2 : (f_CO_o xa) = 23
  ·
    refine v_lsw (off := 91) X 140 dX1_isKnown_49 (by decide) (by rw [h49_2] <;> rfl) (by decide) ?_
    refine v_iload_n X 2 dX1_isKnown_140 rfl rfl ?_
    have e9 : f_CO_isKnown xa = ((if 16 ≤ (f_CO_rd xa) then 0 else 1) : Int32) := by simp only [f_CO_isKnown, if_neg h49_0, if_neg h49_1, if_pos h49_2]
    exact v_endI hend dX1_isKnown_141 e9 rfl
  by_cases h49_3 : (f_CO_o xa) = 35
  ·
    refine v_lsw (off := 166) X 215 dX1_isKnown_49 (by decide) (by rw [h49_3] <;> rfl) (by decide) ?_
    refine v_iload_n X 3 dX1_isKnown_215 rfl rfl ?_
    refine v_callS_CI (rest := []) X [.int xa] (c_CO_f xa σ ) mf_CO_f ws_CO_f wm_CO_24 rfl ⟨by decide, by decide⟩ (Nat.le_of_ble_eq_true rfl) ⟨by decide, by decide⟩ dX1_isKnown_216 ?_
    refine v_iconst (v := 2) X dX1_isKnown_219 (by decide) ?_
    refine v_suff (pc2 := 236) (lv2 := [(3, .int ((if 16 ≤ (f_CO_rs2 xa) then 0 else 1) : Int32)), (2, .int ((if 16 ≤ (f_CO_rs1 xa) then 0 else 1) : Int32)), (1, .int ((if 16 ≤ (f_CO_rd xa) then 0 else 1) : Int32)), (0, .int xa)]) (st2 := [.int ((if (f_CO_f xa) = 2 then (if ((if 16 ≤ (f_CO_rs1 xa) then 0 else 1) : Int32) = 0 then 0 else (if ((if 16 ≤ (f_CO_rs2 xa) then 0 else 1) : Int32) = 0 then 0 else 1)) else 0) : Int32)]) (σ2 := σ) ?_ (fun J220 => ?_)
    rotate_left
    ·
      refine v_icmp_ne X 235 dX1_isKnown_220 (by decide) (fun h220 => ?_) (fun h220 => ?_)
      ·
        refine v_iconst (v := 0) X dX1_isKnown_235 (by decide) ?_
        have e9 : (((if (f_CO_f xa) = 2 then (if ((if 16 ≤ (f_CO_rs1 xa) then 0 else 1) : Int32) = 0 then 0 else (if ((if 16 ≤ (f_CO_rs2 xa) then 0 else 1) : Int32) = 0 then 0 else 1)) else 0) : Int32) : Int32) = 0 := by simp only [if_neg h220]
        rw [e9] at J220
        exact J220
      ·
        refine v_iload_n X 1 dX1_isKnown_223 rfl rfl ?_
        refine v_if_eq X 235 dX1_isKnown_224 (by decide) (fun h224 => ?_) (fun h224 => ?_)
        ·
          refine v_iconst (v := 0) X dX1_isKnown_235 (by decide) ?_
          have e9 : (((if (f_CO_f xa) = 2 then (if ((if 16 ≤ (f_CO_rs1 xa) then 0 else 1) : Int32) = 0 then 0 else (if ((if 16 ≤ (f_CO_rs2 xa) then 0 else 1) : Int32) = 0 then 0 else 1)) else 0) : Int32) : Int32) = 0 := by simp only [if_pos h220, if_pos h224]
          rw [e9] at J220
          exact J220
        ·
          refine v_iload_n X 0 dX1_isKnown_227 rfl rfl ?_
          refine v_if_eq X 235 dX1_isKnown_228 (by decide) (fun h228 => ?_) (fun h228 => ?_)
          ·
            refine v_iconst (v := 0) X dX1_isKnown_235 (by decide) ?_
            have e9 : (((if (f_CO_f xa) = 2 then (if ((if 16 ≤ (f_CO_rs1 xa) then 0 else 1) : Int32) = 0 then 0 else (if ((if 16 ≤ (f_CO_rs2 xa) then 0 else 1) : Int32) = 0 then 0 else 1)) else 0) : Int32) : Int32) = 0 := by simp only [if_pos h220, if_neg h224, if_pos h228]
            rw [e9] at J220
            exact J220
          ·
            refine v_iconst (v := 1) X dX1_isKnown_231 (by decide) ?_
            refine v_goto (tgt := 236) X dX1_isKnown_232 (by decide) ?_
            have e9 : (((if (f_CO_f xa) = 2 then (if ((if 16 ≤ (f_CO_rs1 xa) then 0 else 1) : Int32) = 0 then 0 else (if ((if 16 ≤ (f_CO_rs2 xa) then 0 else 1) : Int32) = 0 then 0 else 1)) else 0) : Int32) : Int32) = 1 := by simp only [if_pos h220, if_neg h224, if_neg h228]
            rw [e9] at J220
            exact J220
    have e9 : f_CO_isKnown xa = ((if (f_CO_f xa) = 2 then (if ((if 16 ≤ (f_CO_rs1 xa) then 0 else 1) : Int32) = 0 then 0 else (if ((if 16 ≤ (f_CO_rs2 xa) then 0 else 1) : Int32) = 0 then 0 else 1)) else 0) : Int32) := by simp only [f_CO_isKnown, if_neg h49_0, if_neg h49_1, if_neg h49_2, if_pos h49_3]
    exact v_endI hend dX1_isKnown_236 e9 rfl
  by_cases h49_4 : (f_CO_o xa) = 51
  ·
    refine v_lsw (off := 216) X 265 dX1_isKnown_49 (by decide) (by rw [h49_4] <;> rfl) (by decide) ?_
    refine v_iload_n X 2 dX1_isKnown_265 rfl rfl ?_
    refine v_suff (pc2 := 296) (lv2 := [(3, .int ((if 16 ≤ (f_CO_rs2 xa) then 0 else 1) : Int32)), (2, .int ((if 16 ≤ (f_CO_rs1 xa) then 0 else 1) : Int32)), (1, .int ((if 16 ≤ (f_CO_rd xa) then 0 else 1) : Int32)), (0, .int xa)]) (st2 := [.int ((if ((if 16 ≤ (f_CO_rd xa) then 0 else 1) : Int32) = 0 then 0 else (if ((if 16 ≤ (f_CO_rs1 xa) then 0 else 1) : Int32) = 0 then 0 else (if ((if 16 ≤ (f_CO_rs2 xa) then 0 else 1) : Int32) = 0 then 0 else (if (f_CO_isKnownWithRegister (f_CO_f xa) (f_CO_g xa)) = 0 then 0 else 1)))) : Int32)]) (σ2 := σ) ?_ (fun J266 => ?_)
    rotate_left
    ·
      refine v_if_eq X 295 dX1_isKnown_266 (by decide) (fun h266 => ?_) (fun h266 => ?_)
      ·
        refine v_iconst (v := 0) X dX1_isKnown_295 (by decide) ?_
        have e9 : (((if ((if 16 ≤ (f_CO_rd xa) then 0 else 1) : Int32) = 0 then 0 else (if ((if 16 ≤ (f_CO_rs1 xa) then 0 else 1) : Int32) = 0 then 0 else (if ((if 16 ≤ (f_CO_rs2 xa) then 0 else 1) : Int32) = 0 then 0 else (if (f_CO_isKnownWithRegister (f_CO_f xa) (f_CO_g xa)) = 0 then 0 else 1)))) : Int32) : Int32) = 0 := by simp only [if_pos h266]
        rw [e9] at J266
        exact J266
      ·
        refine v_iload_n X 1 dX1_isKnown_269 rfl rfl ?_
        refine v_if_eq X 295 dX1_isKnown_270 (by decide) (fun h270 => ?_) (fun h270 => ?_)
        ·
          refine v_iconst (v := 0) X dX1_isKnown_295 (by decide) ?_
          have e9 : (((if ((if 16 ≤ (f_CO_rd xa) then 0 else 1) : Int32) = 0 then 0 else (if ((if 16 ≤ (f_CO_rs1 xa) then 0 else 1) : Int32) = 0 then 0 else (if ((if 16 ≤ (f_CO_rs2 xa) then 0 else 1) : Int32) = 0 then 0 else (if (f_CO_isKnownWithRegister (f_CO_f xa) (f_CO_g xa)) = 0 then 0 else 1)))) : Int32) : Int32) = 0 := by simp only [if_neg h266, if_pos h270]
          rw [e9] at J266
          exact J266
        ·
          refine v_iload_n X 0 dX1_isKnown_273 rfl rfl ?_
          refine v_if_eq X 295 dX1_isKnown_274 (by decide) (fun h274 => ?_) (fun h274 => ?_)
          ·
            refine v_iconst (v := 0) X dX1_isKnown_295 (by decide) ?_
            have e9 : (((if ((if 16 ≤ (f_CO_rd xa) then 0 else 1) : Int32) = 0 then 0 else (if ((if 16 ≤ (f_CO_rs1 xa) then 0 else 1) : Int32) = 0 then 0 else (if ((if 16 ≤ (f_CO_rs2 xa) then 0 else 1) : Int32) = 0 then 0 else (if (f_CO_isKnownWithRegister (f_CO_f xa) (f_CO_g xa)) = 0 then 0 else 1)))) : Int32) : Int32) = 0 := by simp only [if_neg h266, if_neg h270, if_pos h274]
            rw [e9] at J266
            exact J266
          ·
            refine v_iload_n X 3 dX1_isKnown_277 rfl rfl ?_
            refine v_callS_CI (rest := []) X [.int xa] (c_CO_f xa σ ) mf_CO_f ws_CO_f wm_CO_24 rfl ⟨by decide, by decide⟩ (Nat.le_of_ble_eq_true rfl) ⟨by decide, by decide⟩ dX1_isKnown_278 ?_
            refine v_iload_n X 3 dX1_isKnown_281 rfl rfl ?_
            refine v_callS_CI (rest := [.int (f_CO_f xa)]) X [.int xa] (c_CO_g xa σ ) mf_CO_g ws_CO_g wm_CO_27 rfl ⟨by decide, by decide⟩ (Nat.le_of_ble_eq_true rfl) ⟨by decide, by decide⟩ dX1_isKnown_282 ?_
            refine v_callS_CI (rest := []) X [.int (f_CO_f xa), .int (f_CO_g xa)] (c_CO_isKnownWithRegister (f_CO_f xa) (f_CO_g xa) σ ) mf_CO_isKnownWithRegister ws_CO_isKnownWithRegister wm_CO_34 rfl ⟨by decide, by decide⟩ (Nat.le_of_ble_eq_true rfl) ⟨by decide, by decide⟩ dX1_isKnown_285 ?_
            refine v_if_eq X 295 dX1_isKnown_288 (by decide) (fun h288 => ?_) (fun h288 => ?_)
            ·
              refine v_iconst (v := 0) X dX1_isKnown_295 (by decide) ?_
              have e9 : (((if ((if 16 ≤ (f_CO_rd xa) then 0 else 1) : Int32) = 0 then 0 else (if ((if 16 ≤ (f_CO_rs1 xa) then 0 else 1) : Int32) = 0 then 0 else (if ((if 16 ≤ (f_CO_rs2 xa) then 0 else 1) : Int32) = 0 then 0 else (if (f_CO_isKnownWithRegister (f_CO_f xa) (f_CO_g xa)) = 0 then 0 else 1)))) : Int32) : Int32) = 0 := by simp only [if_neg h266, if_neg h270, if_neg h274, if_pos h288]
              rw [e9] at J266
              exact J266
            ·
              refine v_iconst (v := 1) X dX1_isKnown_291 (by decide) ?_
              refine v_goto (tgt := 296) X dX1_isKnown_292 (by decide) ?_
              have e9 : (((if ((if 16 ≤ (f_CO_rd xa) then 0 else 1) : Int32) = 0 then 0 else (if ((if 16 ≤ (f_CO_rs1 xa) then 0 else 1) : Int32) = 0 then 0 else (if ((if 16 ≤ (f_CO_rs2 xa) then 0 else 1) : Int32) = 0 then 0 else (if (f_CO_isKnownWithRegister (f_CO_f xa) (f_CO_g xa)) = 0 then 0 else 1)))) : Int32) : Int32) = 1 := by simp only [if_neg h266, if_neg h270, if_neg h274, if_neg h288]
              rw [e9] at J266
              exact J266
    have e9 : f_CO_isKnown xa = ((if ((if 16 ≤ (f_CO_rd xa) then 0 else 1) : Int32) = 0 then 0 else (if ((if 16 ≤ (f_CO_rs1 xa) then 0 else 1) : Int32) = 0 then 0 else (if ((if 16 ≤ (f_CO_rs2 xa) then 0 else 1) : Int32) = 0 then 0 else (if (f_CO_isKnownWithRegister (f_CO_f xa) (f_CO_g xa)) = 0 then 0 else 1)))) : Int32) := by simp only [f_CO_isKnown, if_neg h49_0, if_neg h49_1, if_neg h49_2, if_neg h49_3, if_pos h49_4]
    exact v_endI hend dX1_isKnown_296 e9 rfl
  by_cases h49_5 : (f_CO_o xa) = 55
  ·
    refine v_lsw (off := 91) X 140 dX1_isKnown_49 (by decide) (by rw [h49_5] <;> rfl) (by decide) ?_
    refine v_iload_n X 2 dX1_isKnown_140 rfl rfl ?_
    have e9 : f_CO_isKnown xa = ((if 16 ≤ (f_CO_rd xa) then 0 else 1) : Int32) := by simp only [f_CO_isKnown, if_neg h49_0, if_neg h49_1, if_neg h49_2, if_neg h49_3, if_neg h49_4, if_pos h49_5]
    exact v_endI hend dX1_isKnown_141 e9 rfl
  by_cases h49_6 : (f_CO_o xa) = 99
  ·
    refine v_lsw (off := 114) X 163 dX1_isKnown_49 (by decide) (by rw [h49_6] <;> rfl) (by decide) ?_
    refine v_iload_n X 3 dX1_isKnown_163 rfl rfl ?_
    refine v_callS_CI (rest := []) X [.int xa] (c_CO_f xa σ ) mf_CO_f ws_CO_f wm_CO_24 rfl ⟨by decide, by decide⟩ (Nat.le_of_ble_eq_true rfl) ⟨by decide, by decide⟩ dX1_isKnown_164 ?_
    refine v_iconst (v := 2) X dX1_isKnown_167 (by decide) ?_
    refine v_suff (pc2 := 192) (lv2 := [(3, .int ((if 16 ≤ (f_CO_rs2 xa) then 0 else 1) : Int32)), (2, .int ((if 16 ≤ (f_CO_rs1 xa) then 0 else 1) : Int32)), (1, .int ((if 16 ≤ (f_CO_rd xa) then 0 else 1) : Int32)), (0, .int xa)]) (st2 := [.int ((if (f_CO_f xa) = 2 then 0 else (if (f_CO_f xa) = 3 then 0 else (if ((if 16 ≤ (f_CO_rs1 xa) then 0 else 1) : Int32) = 0 then 0 else (if ((if 16 ≤ (f_CO_rs2 xa) then 0 else 1) : Int32) = 0 then 0 else 1)))) : Int32)]) (σ2 := σ) ?_ (fun J168 => ?_)
    rotate_left
    ·
      refine v_icmp_eq X 191 dX1_isKnown_168 (by decide) (fun h168 => ?_) (fun h168 => ?_)
      ·
        refine v_iconst (v := 0) X dX1_isKnown_191 (by decide) ?_
        have e9 : (((if (f_CO_f xa) = 2 then 0 else (if (f_CO_f xa) = 3 then 0 else (if ((if 16 ≤ (f_CO_rs1 xa) then 0 else 1) : Int32) = 0 then 0 else (if ((if 16 ≤ (f_CO_rs2 xa) then 0 else 1) : Int32) = 0 then 0 else 1)))) : Int32) : Int32) = 0 := by simp only [if_pos h168]
        rw [e9] at J168
        exact J168
      ·
        refine v_iload_n X 3 dX1_isKnown_171 rfl rfl ?_
        refine v_callS_CI (rest := []) X [.int xa] (c_CO_f xa σ ) mf_CO_f ws_CO_f wm_CO_24 rfl ⟨by decide, by decide⟩ (Nat.le_of_ble_eq_true rfl) ⟨by decide, by decide⟩ dX1_isKnown_172 ?_
        refine v_iconst (v := 3) X dX1_isKnown_175 (by decide) ?_
        refine v_icmp_eq X 191 dX1_isKnown_176 (by decide) (fun h176 => ?_) (fun h176 => ?_)
        ·
          refine v_iconst (v := 0) X dX1_isKnown_191 (by decide) ?_
          have e9 : (((if (f_CO_f xa) = 2 then 0 else (if (f_CO_f xa) = 3 then 0 else (if ((if 16 ≤ (f_CO_rs1 xa) then 0 else 1) : Int32) = 0 then 0 else (if ((if 16 ≤ (f_CO_rs2 xa) then 0 else 1) : Int32) = 0 then 0 else 1)))) : Int32) : Int32) = 0 := by simp only [if_neg h168, if_pos h176]
          rw [e9] at J168
          exact J168
        ·
          refine v_iload_n X 1 dX1_isKnown_179 rfl rfl ?_
          refine v_if_eq X 191 dX1_isKnown_180 (by decide) (fun h180 => ?_) (fun h180 => ?_)
          ·
            refine v_iconst (v := 0) X dX1_isKnown_191 (by decide) ?_
            have e9 : (((if (f_CO_f xa) = 2 then 0 else (if (f_CO_f xa) = 3 then 0 else (if ((if 16 ≤ (f_CO_rs1 xa) then 0 else 1) : Int32) = 0 then 0 else (if ((if 16 ≤ (f_CO_rs2 xa) then 0 else 1) : Int32) = 0 then 0 else 1)))) : Int32) : Int32) = 0 := by simp only [if_neg h168, if_neg h176, if_pos h180]
            rw [e9] at J168
            exact J168
          ·
            refine v_iload_n X 0 dX1_isKnown_183 rfl rfl ?_
            refine v_if_eq X 191 dX1_isKnown_184 (by decide) (fun h184 => ?_) (fun h184 => ?_)
            ·
              refine v_iconst (v := 0) X dX1_isKnown_191 (by decide) ?_
              have e9 : (((if (f_CO_f xa) = 2 then 0 else (if (f_CO_f xa) = 3 then 0 else (if ((if 16 ≤ (f_CO_rs1 xa) then 0 else 1) : Int32) = 0 then 0 else (if ((if 16 ≤ (f_CO_rs2 xa) then 0 else 1) : Int32) = 0 then 0 else 1)))) : Int32) : Int32) = 0 := by simp only [if_neg h168, if_neg h176, if_neg h180, if_pos h184]
              rw [e9] at J168
              exact J168
            ·
              refine v_iconst (v := 1) X dX1_isKnown_187 (by decide) ?_
              refine v_goto (tgt := 192) X dX1_isKnown_188 (by decide) ?_
              have e9 : (((if (f_CO_f xa) = 2 then 0 else (if (f_CO_f xa) = 3 then 0 else (if ((if 16 ≤ (f_CO_rs1 xa) then 0 else 1) : Int32) = 0 then 0 else (if ((if 16 ≤ (f_CO_rs2 xa) then 0 else 1) : Int32) = 0 then 0 else 1)))) : Int32) : Int32) = 1 := by simp only [if_neg h168, if_neg h176, if_neg h180, if_neg h184]
              rw [e9] at J168
              exact J168
    have e9 : f_CO_isKnown xa = ((if (f_CO_f xa) = 2 then 0 else (if (f_CO_f xa) = 3 then 0 else (if ((if 16 ≤ (f_CO_rs1 xa) then 0 else 1) : Int32) = 0 then 0 else (if ((if 16 ≤ (f_CO_rs2 xa) then 0 else 1) : Int32) = 0 then 0 else 1)))) : Int32) := by simp only [f_CO_isKnown, if_neg h49_0, if_neg h49_1, if_neg h49_2, if_neg h49_3, if_neg h49_4, if_neg h49_5, if_pos h49_6]
    exact v_endI hend dX1_isKnown_192 e9 rfl
  by_cases h49_7 : (f_CO_o xa) = 103
  ·
    refine v_lsw (off := 93) X 142 dX1_isKnown_49 (by decide) (by rw [h49_7] <;> rfl) (by decide) ?_
    refine v_iload_n X 3 dX1_isKnown_142 rfl rfl ?_
    refine v_callS_CI (rest := []) X [.int xa] (c_CO_f xa σ ) mf_CO_f ws_CO_f wm_CO_24 rfl ⟨by decide, by decide⟩ (Nat.le_of_ble_eq_true rfl) ⟨by decide, by decide⟩ dX1_isKnown_143 ?_
    refine v_suff (pc2 := 162) (lv2 := [(3, .int ((if 16 ≤ (f_CO_rs2 xa) then 0 else 1) : Int32)), (2, .int ((if 16 ≤ (f_CO_rs1 xa) then 0 else 1) : Int32)), (1, .int ((if 16 ≤ (f_CO_rd xa) then 0 else 1) : Int32)), (0, .int xa)]) (st2 := [.int ((if (f_CO_f xa) = 0 then (if ((if 16 ≤ (f_CO_rd xa) then 0 else 1) : Int32) = 0 then 0 else (if ((if 16 ≤ (f_CO_rs1 xa) then 0 else 1) : Int32) = 0 then 0 else 1)) else 0) : Int32)]) (σ2 := σ) ?_ (fun J146 => ?_)
    rotate_left
    ·
      refine v_if_ne X 161 dX1_isKnown_146 (by decide) (fun h146 => ?_) (fun h146 => ?_)
      ·
        refine v_iconst (v := 0) X dX1_isKnown_161 (by decide) ?_
        have e9 : (((if (f_CO_f xa) = 0 then (if ((if 16 ≤ (f_CO_rd xa) then 0 else 1) : Int32) = 0 then 0 else (if ((if 16 ≤ (f_CO_rs1 xa) then 0 else 1) : Int32) = 0 then 0 else 1)) else 0) : Int32) : Int32) = 0 := by simp only [if_neg h146]
        rw [e9] at J146
        exact J146
      ·
        refine v_iload_n X 2 dX1_isKnown_149 rfl rfl ?_
        refine v_if_eq X 161 dX1_isKnown_150 (by decide) (fun h150 => ?_) (fun h150 => ?_)
        ·
          refine v_iconst (v := 0) X dX1_isKnown_161 (by decide) ?_
          have e9 : (((if (f_CO_f xa) = 0 then (if ((if 16 ≤ (f_CO_rd xa) then 0 else 1) : Int32) = 0 then 0 else (if ((if 16 ≤ (f_CO_rs1 xa) then 0 else 1) : Int32) = 0 then 0 else 1)) else 0) : Int32) : Int32) = 0 := by simp only [if_pos h146, if_pos h150]
          rw [e9] at J146
          exact J146
        ·
          refine v_iload_n X 1 dX1_isKnown_153 rfl rfl ?_
          refine v_if_eq X 161 dX1_isKnown_154 (by decide) (fun h154 => ?_) (fun h154 => ?_)
          ·
            refine v_iconst (v := 0) X dX1_isKnown_161 (by decide) ?_
            have e9 : (((if (f_CO_f xa) = 0 then (if ((if 16 ≤ (f_CO_rd xa) then 0 else 1) : Int32) = 0 then 0 else (if ((if 16 ≤ (f_CO_rs1 xa) then 0 else 1) : Int32) = 0 then 0 else 1)) else 0) : Int32) : Int32) = 0 := by simp only [if_pos h146, if_neg h150, if_pos h154]
            rw [e9] at J146
            exact J146
          ·
            refine v_iconst (v := 1) X dX1_isKnown_157 (by decide) ?_
            refine v_goto (tgt := 162) X dX1_isKnown_158 (by decide) ?_
            have e9 : (((if (f_CO_f xa) = 0 then (if ((if 16 ≤ (f_CO_rd xa) then 0 else 1) : Int32) = 0 then 0 else (if ((if 16 ≤ (f_CO_rs1 xa) then 0 else 1) : Int32) = 0 then 0 else 1)) else 0) : Int32) : Int32) = 1 := by simp only [if_pos h146, if_neg h150, if_neg h154]
            rw [e9] at J146
            exact J146
    have e9 : f_CO_isKnown xa = ((if (f_CO_f xa) = 0 then (if ((if 16 ≤ (f_CO_rd xa) then 0 else 1) : Int32) = 0 then 0 else (if ((if 16 ≤ (f_CO_rs1 xa) then 0 else 1) : Int32) = 0 then 0 else 1)) else 0) : Int32) := by simp only [f_CO_isKnown, if_neg h49_0, if_neg h49_1, if_neg h49_2, if_neg h49_3, if_neg h49_4, if_neg h49_5, if_neg h49_6, if_pos h49_7]
    exact v_endI hend dX1_isKnown_162 e9 rfl
  by_cases h49_8 : (f_CO_o xa) = 111
  ·
    refine v_lsw (off := 91) X 140 dX1_isKnown_49 (by decide) (by rw [h49_8] <;> rfl) (by decide) ?_
    refine v_iload_n X 2 dX1_isKnown_140 rfl rfl ?_
    have e9 : f_CO_isKnown xa = ((if 16 ≤ (f_CO_rd xa) then 0 else 1) : Int32) := by simp only [f_CO_isKnown, if_neg h49_0, if_neg h49_1, if_neg h49_2, if_neg h49_3, if_neg h49_4, if_neg h49_5, if_neg h49_6, if_neg h49_7, if_pos h49_8]
    exact v_endI hend dX1_isKnown_141 e9 rfl
  by_cases h49_9 : (f_CO_o xa) = 115
  ·
    refine v_lsw (off := 248) X 297 dX1_isKnown_49 (by decide) (by rw [h49_9] <;> rfl) (by decide) ?_
    refine v_iload_n X 3 dX1_isKnown_297 rfl rfl ?_
    refine v_bipush (v := 115) X dX1_isKnown_298 (by decide) ?_
    refine v_suff (pc2 := 314) (lv2 := [(3, .int ((if 16 ≤ (f_CO_rs2 xa) then 0 else 1) : Int32)), (2, .int ((if 16 ≤ (f_CO_rs1 xa) then 0 else 1) : Int32)), (1, .int ((if 16 ≤ (f_CO_rd xa) then 0 else 1) : Int32)), (0, .int xa)]) (st2 := [.int ((if xa = 115 then 1 else (if xa = 1048691 then 1 else 0)) : Int32)]) (σ2 := σ) ?_ (fun J300 => ?_)
    rotate_left
    ·
      refine v_icmp_eq X 309 dX1_isKnown_300 (by decide) (fun h300 => ?_) (fun h300 => ?_)
      ·
        refine v_iconst (v := 1) X dX1_isKnown_309 (by decide) ?_
        refine v_goto (tgt := 314) X dX1_isKnown_310 (by decide) ?_
        have e9 : (((if xa = 115 then 1 else (if xa = 1048691 then 1 else 0)) : Int32) : Int32) = 1 := by simp only [if_pos h300]
        rw [e9] at J300
        exact J300
      ·
        refine v_iload_n X 3 dX1_isKnown_303 rfl rfl ?_
        refine v_ldc (v := 1048691) X wk_CO_37 dX1_isKnown_304 ?_
        refine v_icmp_ne X 313 dX1_isKnown_306 (by decide) (fun h306 => ?_) (fun h306 => ?_)
        ·
          refine v_iconst (v := 0) X dX1_isKnown_313 (by decide) ?_
          have e9 : (((if xa = 115 then 1 else (if xa = 1048691 then 1 else 0)) : Int32) : Int32) = 0 := by simp only [if_neg h300, if_neg h306]
          rw [e9] at J300
          exact J300
        ·
          refine v_iconst (v := 1) X dX1_isKnown_309 (by decide) ?_
          refine v_goto (tgt := 314) X dX1_isKnown_310 (by decide) ?_
          have e9 : (((if xa = 115 then 1 else (if xa = 1048691 then 1 else 0)) : Int32) : Int32) = 1 := by simp only [if_neg h300, if_pos h306]
          rw [e9] at J300
          exact J300
    have e9 : f_CO_isKnown xa = ((if xa = 115 then 1 else (if xa = 1048691 then 1 else 0)) : Int32) := by simp only [f_CO_isKnown, if_neg h49_0, if_neg h49_1, if_neg h49_2, if_neg h49_3, if_neg h49_4, if_neg h49_5, if_neg h49_6, if_neg h49_7, if_neg h49_8, if_pos h49_9]
    exact v_endI hend dX1_isKnown_314 e9 rfl
  refine v_lsw (off := 266) X 315 dX1_isKnown_49 (by decide) (by rw [lv_osw h49_0 (by decide)]; rw [lv_osw h49_1 (by decide)]; rw [lv_osw h49_2 (by decide)]; rw [lv_osw h49_3 (by decide)]; rw [lv_osw h49_4 (by decide)]; rw [lv_osw h49_5 (by decide)]; rw [lv_osw h49_6 (by decide)]; rw [lv_osw h49_7 (by decide)]; rw [lv_osw h49_8 (by decide)]; rw [lv_osw h49_9 (by decide)] <;> rfl) (by decide) ?_
  refine v_iconst (v := 0) X dX1_isKnown_315 (by decide) ?_
  have e9 : f_CO_isKnown xa = 0 := by simp only [f_CO_isKnown, if_neg h49_0, if_neg h49_1, if_neg h49_2, if_neg h49_3, if_neg h49_4, if_neg h49_5, if_neg h49_6, if_neg h49_7, if_neg h49_8, if_neg h49_9]
  exact v_endI hend dX1_isKnown_316 e9 rfl
def f_RE_lessWithoutSign (xa : Int32) (xb : Int32) : Int32 :=
  ((if (xb ^^^ (-2147483648)) ≤ (xa ^^^ (-2147483648)) then 0 else 1) : Int32)
theorem z_RE_lessWithoutSign (xa : Int32) (xb : Int32) : (f_RE_lessWithoutSign xa xb) = 0 ∨ (f_RE_lessWithoutSign xa xb) = 1 := by
  unfold f_RE_lessWithoutSign
  repeat' first | exact Or.inl rfl | exact Or.inr rfl | apply z_ite | split
set_option maxHeartbeats 4000000 in
set_option maxRecDepth 100000 in
theorem c_RE_lessWithoutSign (xa : Int32) (xb : Int32) (σ : St) : CI l D (tyL cA) rh (rcW rh cA) NW yX4_lessWithoutSign cX4_lessWithoutSign 2 .boolean 0 [.int xa, .int xb] σ (f_RE_lessWithoutSign xa xb) σ := by
  refine CI.of rfl (Nat.le_of_ble_eq_true rfl) (zN (z_RE_lessWithoutSign ..)) ?_
  intro p9 e s m args below meth c A Q X hend
  refine v_lv (lv' := [(0, .int xa), (1, .int xb)]) [0, 1] rfl ?_
  refine v_iload_n X 0 dX4_lessWithoutSign_0 rfl rfl ?_
  refine v_ldc (v := (-2147483648)) X wk_RE_13 dX4_lessWithoutSign_1 ?_
  refine v_ixor X dX4_lessWithoutSign_3 ?_
  refine v_iload_n X 1 dX4_lessWithoutSign_4 rfl rfl ?_
  refine v_ldc (v := (-2147483648)) X wk_RE_13 dX4_lessWithoutSign_5 ?_
  refine v_ixor X dX4_lessWithoutSign_7 ?_
  refine v_suff (pc2 := 16) (lv2 := [(0, .int xa), (1, .int xb)]) (st2 := [.int ((if (xb ^^^ (-2147483648)) ≤ (xa ^^^ (-2147483648)) then 0 else 1) : Int32)]) (σ2 := σ) ?_ (fun J8 => ?_)
  rotate_left
  ·
    refine v_icmp_ge X 15 dX4_lessWithoutSign_8 (by decide) (fun h8 => ?_) (fun h8 => ?_)
    ·
      refine v_iconst (v := 0) X dX4_lessWithoutSign_15 (by decide) ?_
      have e9 : (((if (xb ^^^ (-2147483648)) ≤ (xa ^^^ (-2147483648)) then 0 else 1) : Int32) : Int32) = 0 := by simp only [if_pos h8]
      rw [e9] at J8
      exact J8
    ·
      refine v_iconst (v := 1) X dX4_lessWithoutSign_11 (by decide) ?_
      refine v_goto (tgt := 16) X dX4_lessWithoutSign_12 (by decide) ?_
      have e9 : (((if (xb ^^^ (-2147483648)) ≤ (xa ^^^ (-2147483648)) then 0 else 1) : Int32) : Int32) = 1 := by simp only [if_neg h8]
      rw [e9] at J8
      exact J8
  have e9 : f_RE_lessWithoutSign xa xb = ((if (xb ^^^ (-2147483648)) ≤ (xa ^^^ (-2147483648)) then 0 else 1) : Int32) := by simp only [f_RE_lessWithoutSign]
  exact v_endI hend dX4_lessWithoutSign_16 e9 rfl
def f_RE_combined (xa : Int32) (xb : Int32) (xc : Int32) (xd : Int32) : Int32 :=
  (if xa = 0 then ((if xb = 0 then (xc + xd) else (xc - xd)) : Int32) else (if xa = 1 then (shl xc (xd &&& 31)) else (if xa = 2 then ((if xd ≤ xc then 0 else 1) : Int32) else (if xa = 3 then ((if (f_RE_lessWithoutSign xc xd) = 0 then 0 else 1) : Int32) else (if xa = 4 then (xc ^^^ xd) else (if xa = 5 then ((if xb = 0 then (ushr xc (xd &&& 31)) else (sshr xc (xd &&& 31))) : Int32) else (if xa = 6 then (xc ||| xd) else (xc &&& xd))))))))
set_option maxHeartbeats 4000000 in
set_option maxRecDepth 100000 in
theorem c_RE_combined (xa : Int32) (xb : Int32) (xc : Int32) (xd : Int32) (σ : St) : CI l D (tyL cA) rh (rcW rh cA) NW yX4_combined cX4_combined 4 .int 1 [.int xa, .int xb, .int xc, .int xd] σ (f_RE_combined xa xb xc xd) σ := by
  refine CI.of rfl (Nat.le_of_ble_eq_true rfl) rfl ?_
  intro p9 e s m args below meth c A Q X hend
  refine v_lv (lv' := [(0, .int xa), (1, .int xb), (2, .int xc), (3, .int xd)]) [0, 1, 2, 3] rfl ?_
  refine v_iload_n X 0 dX4_combined_0 rfl rfl ?_
  by_cases h1_0 : xa = 0
  ·
    refine v_tswI (off := 43) X 0 44 h1_0 dX4_combined_1 (by decide) (by decide) ?_
    refine v_iload_n X 1 dX4_combined_44 rfl rfl ?_
    refine v_suff (pc2 := 57) (lv2 := [(0, .int xa), (1, .int xb), (2, .int xc), (3, .int xd)]) (st2 := [.int ((if xb = 0 then (xc + xd) else (xc - xd)) : Int32)]) (σ2 := σ) ?_ (fun J45 => ?_)
    rotate_left
    ·
      refine v_if_eq X 54 dX4_combined_45 (by decide) (fun h45 => ?_) (fun h45 => ?_)
      ·
        refine v_iload_n X 2 dX4_combined_54 rfl rfl ?_
        refine v_iload_n X 3 dX4_combined_55 rfl rfl ?_
        refine v_iadd X dX4_combined_56 ?_
        have e9 : (((if xb = 0 then (xc + xd) else (xc - xd)) : Int32) : Int32) = (xc + xd) := by simp only [if_pos h45]
        rw [e9] at J45
        exact J45
      ·
        refine v_iload_n X 2 dX4_combined_48 rfl rfl ?_
        refine v_iload_n X 3 dX4_combined_49 rfl rfl ?_
        refine v_isub X dX4_combined_50 ?_
        refine v_goto (tgt := 57) X dX4_combined_51 (by decide) ?_
        have e9 : (((if xb = 0 then (xc + xd) else (xc - xd)) : Int32) : Int32) = (xc - xd) := by simp only [if_neg h45]
        rw [e9] at J45
        exact J45
    have e9 : f_RE_combined xa xb xc xd = ((if xb = 0 then (xc + xd) else (xc - xd)) : Int32) := by simp only [f_RE_combined, if_pos h1_0]
    exact v_endI hend dX4_combined_57 e9 rfl
  by_cases h1_1 : xa = 1
  ·
    refine v_tswI (off := 57) X 1 58 h1_1 dX4_combined_1 (by decide) (by decide) ?_
    refine v_iload_n X 2 dX4_combined_58 rfl rfl ?_
    refine v_iload_n X 3 dX4_combined_59 rfl rfl ?_
    refine v_bipush (v := 31) X dX4_combined_60 (by decide) ?_
    refine v_iand X dX4_combined_62 ?_
    refine v_ishl X dX4_combined_63 ?_
    have e9 : f_RE_combined xa xb xc xd = (shl xc (xd &&& 31)) := by simp only [f_RE_combined, if_neg h1_0, if_pos h1_1]
    exact v_endI hend dX4_combined_64 e9 rfl
  by_cases h1_2 : xa = 2
  ·
    refine v_tswI (off := 64) X 2 65 h1_2 dX4_combined_1 (by decide) (by decide) ?_
    refine v_iload_n X 2 dX4_combined_65 rfl rfl ?_
    refine v_iload_n X 3 dX4_combined_66 rfl rfl ?_
    refine v_suff (pc2 := 75) (lv2 := [(0, .int xa), (1, .int xb), (2, .int xc), (3, .int xd)]) (st2 := [.int ((if xd ≤ xc then 0 else 1) : Int32)]) (σ2 := σ) ?_ (fun J67 => ?_)
    rotate_left
    ·
      refine v_icmp_ge X 74 dX4_combined_67 (by decide) (fun h67 => ?_) (fun h67 => ?_)
      ·
        refine v_iconst (v := 0) X dX4_combined_74 (by decide) ?_
        have e9 : (((if xd ≤ xc then 0 else 1) : Int32) : Int32) = 0 := by simp only [if_pos h67]
        rw [e9] at J67
        exact J67
      ·
        refine v_iconst (v := 1) X dX4_combined_70 (by decide) ?_
        refine v_goto (tgt := 75) X dX4_combined_71 (by decide) ?_
        have e9 : (((if xd ≤ xc then 0 else 1) : Int32) : Int32) = 1 := by simp only [if_neg h67]
        rw [e9] at J67
        exact J67
    have e9 : f_RE_combined xa xb xc xd = ((if xd ≤ xc then 0 else 1) : Int32) := by simp only [f_RE_combined, if_neg h1_0, if_neg h1_1, if_pos h1_2]
    exact v_endI hend dX4_combined_75 e9 rfl
  by_cases h1_3 : xa = 3
  ·
    refine v_tswI (off := 75) X 3 76 h1_3 dX4_combined_1 (by decide) (by decide) ?_
    refine v_iload_n X 2 dX4_combined_76 rfl rfl ?_
    refine v_iload_n X 3 dX4_combined_77 rfl rfl ?_
    refine v_callS_CI (rest := []) X [.int xc, .int xd] (c_RE_lessWithoutSign xc xd σ ) mf_RE_lessWithoutSign ws_RE_lessWithoutSign wm_RE_7 rfl ⟨by decide, by decide⟩ (Nat.le_of_ble_eq_true rfl) ⟨by decide, by decide⟩ dX4_combined_78 ?_
    refine v_suff (pc2 := 89) (lv2 := [(0, .int xa), (1, .int xb), (2, .int xc), (3, .int xd)]) (st2 := [.int ((if (f_RE_lessWithoutSign xc xd) = 0 then 0 else 1) : Int32)]) (σ2 := σ) ?_ (fun J81 => ?_)
    rotate_left
    ·
      refine v_if_eq X 88 dX4_combined_81 (by decide) (fun h81 => ?_) (fun h81 => ?_)
      ·
        refine v_iconst (v := 0) X dX4_combined_88 (by decide) ?_
        have e9 : (((if (f_RE_lessWithoutSign xc xd) = 0 then 0 else 1) : Int32) : Int32) = 0 := by simp only [if_pos h81]
        rw [e9] at J81
        exact J81
      ·
        refine v_iconst (v := 1) X dX4_combined_84 (by decide) ?_
        refine v_goto (tgt := 89) X dX4_combined_85 (by decide) ?_
        have e9 : (((if (f_RE_lessWithoutSign xc xd) = 0 then 0 else 1) : Int32) : Int32) = 1 := by simp only [if_neg h81]
        rw [e9] at J81
        exact J81
    have e9 : f_RE_combined xa xb xc xd = ((if (f_RE_lessWithoutSign xc xd) = 0 then 0 else 1) : Int32) := by simp only [f_RE_combined, if_neg h1_0, if_neg h1_1, if_neg h1_2, if_pos h1_3]
    exact v_endI hend dX4_combined_89 e9 rfl
  by_cases h1_4 : xa = 4
  ·
    refine v_tswI (off := 89) X 4 90 h1_4 dX4_combined_1 (by decide) (by decide) ?_
    refine v_iload_n X 2 dX4_combined_90 rfl rfl ?_
    refine v_iload_n X 3 dX4_combined_91 rfl rfl ?_
    refine v_ixor X dX4_combined_92 ?_
    have e9 : f_RE_combined xa xb xc xd = (xc ^^^ xd) := by simp only [f_RE_combined, if_neg h1_0, if_neg h1_1, if_neg h1_2, if_neg h1_3, if_pos h1_4]
    exact v_endI hend dX4_combined_93 e9 rfl
  by_cases h1_5 : xa = 5
  ·
    refine v_tswI (off := 93) X 5 94 h1_5 dX4_combined_1 (by decide) (by decide) ?_
    refine v_iload_n X 1 dX4_combined_94 rfl rfl ?_
    refine v_suff (pc2 := 113) (lv2 := [(0, .int xa), (1, .int xb), (2, .int xc), (3, .int xd)]) (st2 := [.int ((if xb = 0 then (ushr xc (xd &&& 31)) else (sshr xc (xd &&& 31))) : Int32)]) (σ2 := σ) ?_ (fun J95 => ?_)
    rotate_left
    ·
      refine v_if_eq X 107 dX4_combined_95 (by decide) (fun h95 => ?_) (fun h95 => ?_)
      ·
        refine v_iload_n X 2 dX4_combined_107 rfl rfl ?_
        refine v_iload_n X 3 dX4_combined_108 rfl rfl ?_
        refine v_bipush (v := 31) X dX4_combined_109 (by decide) ?_
        refine v_iand X dX4_combined_111 ?_
        refine v_iushr X dX4_combined_112 ?_
        have e9 : (((if xb = 0 then (ushr xc (xd &&& 31)) else (sshr xc (xd &&& 31))) : Int32) : Int32) = (ushr xc (xd &&& 31)) := by simp only [if_pos h95]
        rw [e9] at J95
        exact J95
      ·
        refine v_iload_n X 2 dX4_combined_98 rfl rfl ?_
        refine v_iload_n X 3 dX4_combined_99 rfl rfl ?_
        refine v_bipush (v := 31) X dX4_combined_100 (by decide) ?_
        refine v_iand X dX4_combined_102 ?_
        refine v_ishr X dX4_combined_103 ?_
        refine v_goto (tgt := 113) X dX4_combined_104 (by decide) ?_
        have e9 : (((if xb = 0 then (ushr xc (xd &&& 31)) else (sshr xc (xd &&& 31))) : Int32) : Int32) = (sshr xc (xd &&& 31)) := by simp only [if_neg h95]
        rw [e9] at J95
        exact J95
    have e9 : f_RE_combined xa xb xc xd = ((if xb = 0 then (ushr xc (xd &&& 31)) else (sshr xc (xd &&& 31))) : Int32) := by simp only [f_RE_combined, if_neg h1_0, if_neg h1_1, if_neg h1_2, if_neg h1_3, if_neg h1_4, if_pos h1_5]
    exact v_endI hend dX4_combined_113 e9 rfl
  by_cases h1_6 : xa = 6
  ·
    refine v_tswI (off := 113) X 6 114 h1_6 dX4_combined_1 (by decide) (by decide) ?_
    refine v_iload_n X 2 dX4_combined_114 rfl rfl ?_
    refine v_iload_n X 3 dX4_combined_115 rfl rfl ?_
    refine v_ior X dX4_combined_116 ?_
    have e9 : f_RE_combined xa xb xc xd = (xc ||| xd) := by simp only [f_RE_combined, if_neg h1_0, if_neg h1_1, if_neg h1_2, if_neg h1_3, if_neg h1_4, if_neg h1_5, if_pos h1_6]
    exact v_endI hend dX4_combined_117 e9 rfl
  refine v_tswO X 118 dX4_combined_1 (by have g0 := lv_neT (a := 0) h1_0 (by decide); have g1 := lv_neT (a := 1) h1_1 (by decide); have g2 := lv_neT (a := 2) h1_2 (by decide); have g3 := lv_neT (a := 3) h1_3 (by decide); have g4 := lv_neT (a := 4) h1_4 (by decide); have g5 := lv_neT (a := 5) h1_5 (by decide); have g6 := lv_neT (a := 6) h1_6 (by decide); omega) (by decide) ?_
  refine v_iload_n X 2 dX4_combined_118 rfl rfl ?_
  refine v_iload_n X 3 dX4_combined_119 rfl rfl ?_
  refine v_iand X dX4_combined_120 ?_
  have e9 : f_RE_combined xa xb xc xd = (xc &&& xd) := by simp only [f_RE_combined, if_neg h1_0, if_neg h1_1, if_neg h1_2, if_neg h1_3, if_neg h1_4, if_neg h1_5, if_neg h1_6]
  exact v_endI hend dX4_combined_121 e9 rfl
def f_RE_branches (xa : Int32) (xb : Int32) (xc : Int32) : Int32 :=
  (if xa = 0 then ((if xb = xc then 1 else 0) : Int32) else (if xa = 1 then ((if xb = xc then 0 else 1) : Int32) else (if xa = 2 then ((if (f_RE_lessWithoutSign xb xc) = 0 then 1 else 0) : Int32) else (if xa = 3 then ((if (f_RE_lessWithoutSign xb xc) = 0 then 1 else 0) : Int32) else (if xa = 4 then ((if xc ≤ xb then 0 else 1) : Int32) else (if xa = 5 then ((if xb < xc then 0 else 1) : Int32) else (if xa = 6 then (f_RE_lessWithoutSign xb xc) else ((if (f_RE_lessWithoutSign xb xc) = 0 then 1 else 0) : Int32))))))))
theorem z_RE_branches (xa : Int32) (xb : Int32) (xc : Int32) : (f_RE_branches xa xb xc) = 0 ∨ (f_RE_branches xa xb xc) = 1 := by
  unfold f_RE_branches
  repeat' first | exact Or.inl rfl | exact Or.inr rfl | exact z_RE_lessWithoutSign .. | apply z_ite | split
set_option maxHeartbeats 4000000 in
set_option maxRecDepth 100000 in
theorem c_RE_branches (xa : Int32) (xb : Int32) (xc : Int32) (σ : St) : CI l D (tyL cA) rh (rcW rh cA) NW yX4_branches cX4_branches 3 .boolean 1 [.int xa, .int xb, .int xc] σ (f_RE_branches xa xb xc) σ := by
  refine CI.of rfl (Nat.le_of_ble_eq_true rfl) (zN (z_RE_branches ..)) ?_
  intro p9 e s m args below meth c A Q X hend
  refine v_lv (lv' := [(0, .int xa), (1, .int xb), (2, .int xc)]) [0, 1, 2] rfl ?_
  refine v_iload_n X 0 dX4_branches_0 rfl rfl ?_
  by_cases h1_0 : xa = 0
  ·
    refine v_tswI (off := 43) X 0 44 h1_0 dX4_branches_1 (by decide) (by decide) ?_
    refine v_iload_n X 1 dX4_branches_44 rfl rfl ?_
    refine v_iload_n X 2 dX4_branches_45 rfl rfl ?_
    refine v_suff (pc2 := 54) (lv2 := [(0, .int xa), (1, .int xb), (2, .int xc)]) (st2 := [.int ((if xb = xc then 1 else 0) : Int32)]) (σ2 := σ) ?_ (fun J46 => ?_)
    rotate_left
    ·
      refine v_icmp_ne X 53 dX4_branches_46 (by decide) (fun h46 => ?_) (fun h46 => ?_)
      ·
        refine v_iconst (v := 0) X dX4_branches_53 (by decide) ?_
        have e9 : (((if xb = xc then 1 else 0) : Int32) : Int32) = 0 := by simp only [if_neg h46]
        rw [e9] at J46
        exact J46
      ·
        refine v_iconst (v := 1) X dX4_branches_49 (by decide) ?_
        refine v_goto (tgt := 54) X dX4_branches_50 (by decide) ?_
        have e9 : (((if xb = xc then 1 else 0) : Int32) : Int32) = 1 := by simp only [if_pos h46]
        rw [e9] at J46
        exact J46
    have e9 : f_RE_branches xa xb xc = ((if xb = xc then 1 else 0) : Int32) := by simp only [f_RE_branches, if_pos h1_0]
    exact v_endI hend dX4_branches_54 e9 rfl
  by_cases h1_1 : xa = 1
  ·
    refine v_tswI (off := 54) X 1 55 h1_1 dX4_branches_1 (by decide) (by decide) ?_
    refine v_iload_n X 1 dX4_branches_55 rfl rfl ?_
    refine v_iload_n X 2 dX4_branches_56 rfl rfl ?_
    refine v_suff (pc2 := 65) (lv2 := [(0, .int xa), (1, .int xb), (2, .int xc)]) (st2 := [.int ((if xb = xc then 0 else 1) : Int32)]) (σ2 := σ) ?_ (fun J57 => ?_)
    rotate_left
    ·
      refine v_icmp_eq X 64 dX4_branches_57 (by decide) (fun h57 => ?_) (fun h57 => ?_)
      ·
        refine v_iconst (v := 0) X dX4_branches_64 (by decide) ?_
        have e9 : (((if xb = xc then 0 else 1) : Int32) : Int32) = 0 := by simp only [if_pos h57]
        rw [e9] at J57
        exact J57
      ·
        refine v_iconst (v := 1) X dX4_branches_60 (by decide) ?_
        refine v_goto (tgt := 65) X dX4_branches_61 (by decide) ?_
        have e9 : (((if xb = xc then 0 else 1) : Int32) : Int32) = 1 := by simp only [if_neg h57]
        rw [e9] at J57
        exact J57
    have e9 : f_RE_branches xa xb xc = ((if xb = xc then 0 else 1) : Int32) := by simp only [f_RE_branches, if_neg h1_0, if_pos h1_1]
    exact v_endI hend dX4_branches_65 e9 rfl
  by_cases h1_2 : xa = 2
  ·
    refine v_tswI (off := 93) X 2 94 h1_2 dX4_branches_1 (by decide) (by decide) ?_
    refine v_iload_n X 1 dX4_branches_94 rfl rfl ?_
    refine v_iload_n X 2 dX4_branches_95 rfl rfl ?_
    refine v_callS_CI (rest := []) X [.int xb, .int xc] (c_RE_lessWithoutSign xb xc σ ) mf_RE_lessWithoutSign ws_RE_lessWithoutSign wm_RE_7 rfl ⟨by decide, by decide⟩ (Nat.le_of_ble_eq_true rfl) ⟨by decide, by decide⟩ dX4_branches_96 ?_
    refine v_suff (pc2 := 107) (lv2 := [(0, .int xa), (1, .int xb), (2, .int xc)]) (st2 := [.int ((if (f_RE_lessWithoutSign xb xc) = 0 then 1 else 0) : Int32)]) (σ2 := σ) ?_ (fun J99 => ?_)
    rotate_left
    ·
      refine v_if_ne X 106 dX4_branches_99 (by decide) (fun h99 => ?_) (fun h99 => ?_)
      ·
        refine v_iconst (v := 0) X dX4_branches_106 (by decide) ?_
        have e9 : (((if (f_RE_lessWithoutSign xb xc) = 0 then 1 else 0) : Int32) : Int32) = 0 := by simp only [if_neg h99]
        rw [e9] at J99
        exact J99
      ·
        refine v_iconst (v := 1) X dX4_branches_102 (by decide) ?_
        refine v_goto (tgt := 107) X dX4_branches_103 (by decide) ?_
        have e9 : (((if (f_RE_lessWithoutSign xb xc) = 0 then 1 else 0) : Int32) : Int32) = 1 := by simp only [if_pos h99]
        rw [e9] at J99
        exact J99
    have e9 : f_RE_branches xa xb xc = ((if (f_RE_lessWithoutSign xb xc) = 0 then 1 else 0) : Int32) := by simp only [f_RE_branches, if_neg h1_0, if_neg h1_1, if_pos h1_2]
    exact v_endI hend dX4_branches_107 e9 rfl
  by_cases h1_3 : xa = 3
  ·
    refine v_tswI (off := 93) X 3 94 h1_3 dX4_branches_1 (by decide) (by decide) ?_
    refine v_iload_n X 1 dX4_branches_94 rfl rfl ?_
    refine v_iload_n X 2 dX4_branches_95 rfl rfl ?_
    refine v_callS_CI (rest := []) X [.int xb, .int xc] (c_RE_lessWithoutSign xb xc σ ) mf_RE_lessWithoutSign ws_RE_lessWithoutSign wm_RE_7 rfl ⟨by decide, by decide⟩ (Nat.le_of_ble_eq_true rfl) ⟨by decide, by decide⟩ dX4_branches_96 ?_
    refine v_suff (pc2 := 107) (lv2 := [(0, .int xa), (1, .int xb), (2, .int xc)]) (st2 := [.int ((if (f_RE_lessWithoutSign xb xc) = 0 then 1 else 0) : Int32)]) (σ2 := σ) ?_ (fun J99 => ?_)
    rotate_left
    ·
      refine v_if_ne X 106 dX4_branches_99 (by decide) (fun h99 => ?_) (fun h99 => ?_)
      ·
        refine v_iconst (v := 0) X dX4_branches_106 (by decide) ?_
        have e9 : (((if (f_RE_lessWithoutSign xb xc) = 0 then 1 else 0) : Int32) : Int32) = 0 := by simp only [if_neg h99]
        rw [e9] at J99
        exact J99
      ·
        refine v_iconst (v := 1) X dX4_branches_102 (by decide) ?_
        refine v_goto (tgt := 107) X dX4_branches_103 (by decide) ?_
        have e9 : (((if (f_RE_lessWithoutSign xb xc) = 0 then 1 else 0) : Int32) : Int32) = 1 := by simp only [if_pos h99]
        rw [e9] at J99
        exact J99
    have e9 : f_RE_branches xa xb xc = ((if (f_RE_lessWithoutSign xb xc) = 0 then 1 else 0) : Int32) := by simp only [f_RE_branches, if_neg h1_0, if_neg h1_1, if_neg h1_2, if_pos h1_3]
    exact v_endI hend dX4_branches_107 e9 rfl
  by_cases h1_4 : xa = 4
  ·
    refine v_tswI (off := 65) X 4 66 h1_4 dX4_branches_1 (by decide) (by decide) ?_
    refine v_iload_n X 1 dX4_branches_66 rfl rfl ?_
    refine v_iload_n X 2 dX4_branches_67 rfl rfl ?_
    refine v_suff (pc2 := 76) (lv2 := [(0, .int xa), (1, .int xb), (2, .int xc)]) (st2 := [.int ((if xc ≤ xb then 0 else 1) : Int32)]) (σ2 := σ) ?_ (fun J68 => ?_)
    rotate_left
    ·
      refine v_icmp_ge X 75 dX4_branches_68 (by decide) (fun h68 => ?_) (fun h68 => ?_)
      ·
        refine v_iconst (v := 0) X dX4_branches_75 (by decide) ?_
        have e9 : (((if xc ≤ xb then 0 else 1) : Int32) : Int32) = 0 := by simp only [if_pos h68]
        rw [e9] at J68
        exact J68
      ·
        refine v_iconst (v := 1) X dX4_branches_71 (by decide) ?_
        refine v_goto (tgt := 76) X dX4_branches_72 (by decide) ?_
        have e9 : (((if xc ≤ xb then 0 else 1) : Int32) : Int32) = 1 := by simp only [if_neg h68]
        rw [e9] at J68
        exact J68
    have e9 : f_RE_branches xa xb xc = ((if xc ≤ xb then 0 else 1) : Int32) := by simp only [f_RE_branches, if_neg h1_0, if_neg h1_1, if_neg h1_2, if_neg h1_3, if_pos h1_4]
    exact v_endI hend dX4_branches_76 e9 rfl
  by_cases h1_5 : xa = 5
  ·
    refine v_tswI (off := 76) X 5 77 h1_5 dX4_branches_1 (by decide) (by decide) ?_
    refine v_iload_n X 1 dX4_branches_77 rfl rfl ?_
    refine v_iload_n X 2 dX4_branches_78 rfl rfl ?_
    refine v_suff (pc2 := 87) (lv2 := [(0, .int xa), (1, .int xb), (2, .int xc)]) (st2 := [.int ((if xb < xc then 0 else 1) : Int32)]) (σ2 := σ) ?_ (fun J79 => ?_)
    rotate_left
    ·
      refine v_icmp_lt X 86 dX4_branches_79 (by decide) (fun h79 => ?_) (fun h79 => ?_)
      ·
        refine v_iconst (v := 0) X dX4_branches_86 (by decide) ?_
        have e9 : (((if xb < xc then 0 else 1) : Int32) : Int32) = 0 := by simp only [if_pos h79]
        rw [e9] at J79
        exact J79
      ·
        refine v_iconst (v := 1) X dX4_branches_82 (by decide) ?_
        refine v_goto (tgt := 87) X dX4_branches_83 (by decide) ?_
        have e9 : (((if xb < xc then 0 else 1) : Int32) : Int32) = 1 := by simp only [if_neg h79]
        rw [e9] at J79
        exact J79
    have e9 : f_RE_branches xa xb xc = ((if xb < xc then 0 else 1) : Int32) := by simp only [f_RE_branches, if_neg h1_0, if_neg h1_1, if_neg h1_2, if_neg h1_3, if_neg h1_4, if_pos h1_5]
    exact v_endI hend dX4_branches_87 e9 rfl
  by_cases h1_6 : xa = 6
  ·
    refine v_tswI (off := 87) X 6 88 h1_6 dX4_branches_1 (by decide) (by decide) ?_
    refine v_iload_n X 1 dX4_branches_88 rfl rfl ?_
    refine v_iload_n X 2 dX4_branches_89 rfl rfl ?_
    refine v_callS_CI (rest := []) X [.int xb, .int xc] (c_RE_lessWithoutSign xb xc σ ) mf_RE_lessWithoutSign ws_RE_lessWithoutSign wm_RE_7 rfl ⟨by decide, by decide⟩ (Nat.le_of_ble_eq_true rfl) ⟨by decide, by decide⟩ dX4_branches_90 ?_
    have e9 : f_RE_branches xa xb xc = (f_RE_lessWithoutSign xb xc) := by simp only [f_RE_branches, if_neg h1_0, if_neg h1_1, if_neg h1_2, if_neg h1_3, if_neg h1_4, if_neg h1_5, if_pos h1_6]
    exact v_endI hend dX4_branches_93 e9 rfl
  refine v_tswO X 94 dX4_branches_1 (by have g0 := lv_neT (a := 0) h1_0 (by decide); have g1 := lv_neT (a := 1) h1_1 (by decide); have g2 := lv_neT (a := 2) h1_2 (by decide); have g3 := lv_neT (a := 3) h1_3 (by decide); have g4 := lv_neT (a := 4) h1_4 (by decide); have g5 := lv_neT (a := 5) h1_5 (by decide); have g6 := lv_neT (a := 6) h1_6 (by decide); omega) (by decide) ?_
  refine v_iload_n X 1 dX4_branches_94 rfl rfl ?_
  refine v_iload_n X 2 dX4_branches_95 rfl rfl ?_
  refine v_callS_CI (rest := []) X [.int xb, .int xc] (c_RE_lessWithoutSign xb xc σ ) mf_RE_lessWithoutSign ws_RE_lessWithoutSign wm_RE_7 rfl ⟨by decide, by decide⟩ (Nat.le_of_ble_eq_true rfl) ⟨by decide, by decide⟩ dX4_branches_96 ?_
  refine v_suff (pc2 := 107) (lv2 := [(0, .int xa), (1, .int xb), (2, .int xc)]) (st2 := [.int ((if (f_RE_lessWithoutSign xb xc) = 0 then 1 else 0) : Int32)]) (σ2 := σ) ?_ (fun J99 => ?_)
  rotate_left
  ·
    refine v_if_ne X 106 dX4_branches_99 (by decide) (fun h99 => ?_) (fun h99 => ?_)
    ·
      refine v_iconst (v := 0) X dX4_branches_106 (by decide) ?_
      have e9 : (((if (f_RE_lessWithoutSign xb xc) = 0 then 1 else 0) : Int32) : Int32) = 0 := by simp only [if_neg h99]
      rw [e9] at J99
      exact J99
    ·
      refine v_iconst (v := 1) X dX4_branches_102 (by decide) ?_
      refine v_goto (tgt := 107) X dX4_branches_103 (by decide) ?_
      have e9 : (((if (f_RE_lessWithoutSign xb xc) = 0 then 1 else 0) : Int32) : Int32) = 1 := by simp only [if_pos h99]
      rw [e9] at J99
      exact J99
  have e9 : f_RE_branches xa xb xc = ((if (f_RE_lessWithoutSign xb xc) = 0 then 1 else 0) : Int32) := by simp only [f_RE_branches, if_neg h1_0, if_neg h1_1, if_neg h1_2, if_neg h1_3, if_neg h1_4, if_neg h1_5, if_neg h1_6]
  exact v_endI hend dX4_branches_107 e9 rfl
end CLS
