
section CLS
variable {l : Launch} {D : va_G} {rh : Nat → Nat} {cA : Nat → ClassId}
def lp_MO_region_53 (xa : Int32) (xb : Int32) (xc : Int32) : Nat → Int32 → St → St
  | 0, _, σ => σ
  | k9 + 1, i4, σ => (if 4 ≤ i4 then (if (σ iMO 33) = 0 then (up (up σ i_from (xa).toNatClampNeg xb) i_size (xa).toNatClampNeg xc) else σ) else (if i4 = xa then (lp_MO_region_53 xa xb xc k9 (i4 + 1) σ) else (if xc ≤ 0 then (lp_MO_region_53 xa xb xc k9 (i4 + 1) σ) else (if (σ i_size (i4).toNatClampNeg) ≤ 0 then (lp_MO_region_53 xa xb xc k9 (i4 + 1) σ) else (if ((σ i_from (i4).toNatClampNeg) + (σ i_size (i4).toNatClampNeg)) ≤ xb then (lp_MO_region_53 xa xb xc k9 (i4 + 1) σ) else (if (xb + xc) ≤ (σ i_from (i4).toNatClampNeg) then (lp_MO_region_53 xa xb xc k9 (i4 + 1) σ) else (lp_MO_region_53 xa xb xc k9 (i4 + 1) (up σ iMO 33 3))))))))
set_option maxHeartbeats 4000000 in
set_option maxRecDepth 100000 in
theorem lc_MO_region_53 (xa : Int32) (xb : Int32) (xc : Int32) (hq : vp_in xa 4) {p9 : Program} {e : Env} {s : State} {m : MethodId} {args : Array Value} {below : List Frame} {meth : Method} {c : Code} {A : Nat → Prop} {Q : State → Prop} (X : Cx p9 s m args meth c D (tyL cA) A cX8_region 5 yX8_region.cls) : ∀ (k9 : Nat) (i4 : Int32) (σ : St), (hI : Im σ) → (hi : 0 ≤ i4.toInt ∧ i4.toInt ≤ 4) → (4 - i4.toInt < (k9 : Int)) → (∀ (pc : Nat) (lv : List (Nat × Value)), decode cX8_region pc = .ok (.return_, 1) → Vz p9 l e (Rz 1) s m args below meth c D A 5 rh (rcW rh cA) NW 0 0 Q pc lv [] (lp_MO_region_53 xa xb xc k9 i4 σ)) → Vz p9 l e (Rz 1) s m args below meth c D A 5 rh (rcW rh cA) NW 0 0 Q 53 [(0, .ref (rh iMO)), (1, .int xa), (2, .int xb), (3, .int xc), (4, .int i4)] [] σ := by
  intro k9
  induction k9 with
  | zero =>
    intro i4 σ hI hi hmu hend
    exact absurd hmu (by omega)
  | succ k9 ih =>
    intro i4 σ hI hi hmu hend
    refine v_iload X 4 dX8_region_53 rfl ?_
    refine v_iconst (v := 4) X dX8_region_55 (by decide) ?_
    refine v_icmp_ge X 122 dX8_region_56 (by decide) (fun h56 => ?_) (fun h56 => ?_)
    ·
      refine v_aload_n X 0 dX8_region_122 rfl rfl ?_
      refine v_getI (i := iMO) (k := 33) X (lt_MO ) (sh_MO ) rfl in_MO (by decide) wf_MO_84 rfl (fun _ => rfl) dX8_region_123 ?_
      refine v_if_eq X 130 dX8_region_126 (by decide) (fun h126 => ?_) (fun h126 => ?_)
      ·
        refine v_aload_n X 0 dX8_region_130 rfl rfl ?_
        refine v_getR (j := i_from) (i := iMO) (k := 3) X (lt_MO ) (sh_MO ) rfl in_MO (by decide) wf_MO_19 rfl (fun _ => rfl) dX8_region_131 ?_
        refine v_iload_n X 1 dX8_region_134 rfl rfl ?_
        refine v_iload_n X 2 dX8_region_135 rfl rfl ?_
        have hv136 : vp_in xa 4 := hq
        refine v_iast (i := i_from) (t0 := 0) X (lt_m_from ) (sh_m_from ) rfl hv136 dX8_region_136 ?_
        generalize hg136 : (up σ i_from (xa).toNatClampNeg xb) = g136
        refine v_aload_n X 0 dX8_region_137 rfl rfl ?_
        refine v_getR (j := i_size) (i := iMO) (k := 4) X (lt_MO ) (sh_MO ) rfl in_MO (by decide) wf_MO_22 rfl (fun _ => rfl) dX8_region_138 ?_
        refine v_iload_n X 1 dX8_region_141 rfl rfl ?_
        refine v_iload_n X 3 dX8_region_142 rfl rfl ?_
        have hv143 : vp_in xa 4 := hq
        refine v_iast (i := i_size) (t0 := 0) X (lt_m_size ) (sh_m_size ) rfl hv143 dX8_region_143 ?_
        generalize hg143 : (up g136 i_size (xa).toNatClampNeg xc) = g143
        have e9 : lp_MO_region_53 xa xb xc (k9 + 1) i4 σ = g143 := by subst hg136; subst hg143; simp only [lp_MO_region_53, if_pos h56, if_pos h126]
        exact v_endV hend dX8_region_144 e9
      ·
        have e9 : lp_MO_region_53 xa xb xc (k9 + 1) i4 σ = σ := by simp only [lp_MO_region_53, if_pos h56, if_neg h126]
        exact v_endV hend dX8_region_129 e9
    ·
      refine v_iload X 4 dX8_region_59 rfl ?_
      refine v_iload_n X 1 dX8_region_61 rfl rfl ?_
      refine v_icmp_eq X 116 dX8_region_62 (by decide) (fun h62 => ?_) (fun h62 => ?_)
      ·
        refine v_iinc (v := (i4 + 1)) (lv' := [(4, .int (i4 + 1)), (0, .ref (rh iMO)), (1, .int xa), (2, .int xb), (3, .int xc)]) X 4 dX8_region_116 rfl rfl (by decide) rfl ?_
        refine v_goto (tgt := 53) X dX8_region_119 (by decide) ?_
        have e9 : lp_MO_region_53 xa xb xc (k9 + 1) i4 σ = lp_MO_region_53 xa xb xc k9 (i4 + 1) σ := by simp only [lp_MO_region_53, if_neg h56, if_pos h62]
        rw [e9] at hend
        refine v_lv (lv' := [(0, .ref (rh iMO)), (1, .int xa), (2, .int xb), (3, .int xc), (4, .int (i4 + 1))]) [1, 2, 3, 4, 0] rfl ?_
        exact ih (i4 + 1) σ hI ⟨by have u9 := i_succ h56; omega, by have u9 := i_succ h56; have u8 := h56; rw [ile] at u8; have z : (4 : Int32).toInt = 4 := (by decide); omega⟩ (by have u9 := i_succ h56; omega) hend
      ·
        refine v_iload_n X 3 dX8_region_65 rfl rfl ?_
        refine v_if_le X 116 dX8_region_66 (by decide) (fun h66 => ?_) (fun h66 => ?_)
        ·
          refine v_iinc (v := (i4 + 1)) (lv' := [(4, .int (i4 + 1)), (0, .ref (rh iMO)), (1, .int xa), (2, .int xb), (3, .int xc)]) X 4 dX8_region_116 rfl rfl (by decide) rfl ?_
          refine v_goto (tgt := 53) X dX8_region_119 (by decide) ?_
          have e9 : lp_MO_region_53 xa xb xc (k9 + 1) i4 σ = lp_MO_region_53 xa xb xc k9 (i4 + 1) σ := by simp only [lp_MO_region_53, if_neg h56, if_neg h62, if_pos h66]
          rw [e9] at hend
          refine v_lv (lv' := [(0, .ref (rh iMO)), (1, .int xa), (2, .int xb), (3, .int xc), (4, .int (i4 + 1))]) [1, 2, 3, 4, 0] rfl ?_
          exact ih (i4 + 1) σ hI ⟨by have u9 := i_succ h56; omega, by have u9 := i_succ h56; have u8 := h56; rw [ile] at u8; have z : (4 : Int32).toInt = 4 := (by decide); omega⟩ (by have u9 := i_succ h56; omega) hend
        ·
          refine v_aload_n X 0 dX8_region_69 rfl rfl ?_
          refine v_getR (j := i_size) (i := iMO) (k := 4) X (lt_MO ) (sh_MO ) rfl in_MO (by decide) wf_MO_22 rfl (fun _ => rfl) dX8_region_70 ?_
          refine v_iload X 4 dX8_region_73 rfl ?_
          have hv75 : vp_in i4 4 := (vin_mk hi.1 (nle (by decide) h56))
          refine v_iald (i := i_size) (t0 := 0) X (lt_m_size ) (sh_m_size ) rfl hv75 dX8_region_75 ?_
          refine v_if_le X 116 dX8_region_76 (by decide) (fun h76 => ?_) (fun h76 => ?_)
          ·
            refine v_iinc (v := (i4 + 1)) (lv' := [(4, .int (i4 + 1)), (0, .ref (rh iMO)), (1, .int xa), (2, .int xb), (3, .int xc)]) X 4 dX8_region_116 rfl rfl (by decide) rfl ?_
            refine v_goto (tgt := 53) X dX8_region_119 (by decide) ?_
            have e9 : lp_MO_region_53 xa xb xc (k9 + 1) i4 σ = lp_MO_region_53 xa xb xc k9 (i4 + 1) σ := by simp only [lp_MO_region_53, if_neg h56, if_neg h62, if_neg h66, if_pos h76]
            rw [e9] at hend
            refine v_lv (lv' := [(0, .ref (rh iMO)), (1, .int xa), (2, .int xb), (3, .int xc), (4, .int (i4 + 1))]) [1, 2, 3, 4, 0] rfl ?_
            exact ih (i4 + 1) σ hI ⟨by have u9 := i_succ h56; omega, by have u9 := i_succ h56; have u8 := h56; rw [ile] at u8; have z : (4 : Int32).toInt = 4 := (by decide); omega⟩ (by have u9 := i_succ h56; omega) hend
          ·
            refine v_iload_n X 2 dX8_region_79 rfl rfl ?_
            refine v_aload_n X 0 dX8_region_80 rfl rfl ?_
            refine v_getR (j := i_from) (i := iMO) (k := 3) X (lt_MO ) (sh_MO ) rfl in_MO (by decide) wf_MO_19 rfl (fun _ => rfl) dX8_region_81 ?_
            refine v_iload X 4 dX8_region_84 rfl ?_
            have hv86 : vp_in i4 4 := (vin_mk hi.1 (nle (by decide) h56))
            refine v_iald (i := i_from) (t0 := 0) X (lt_m_from ) (sh_m_from ) rfl hv86 dX8_region_86 ?_
            refine v_aload_n X 0 dX8_region_87 rfl rfl ?_
            refine v_getR (j := i_size) (i := iMO) (k := 4) X (lt_MO ) (sh_MO ) rfl in_MO (by decide) wf_MO_22 rfl (fun _ => rfl) dX8_region_88 ?_
            refine v_iload X 4 dX8_region_91 rfl ?_
            have hv93 : vp_in i4 4 := (vin_mk hi.1 (nle (by decide) h56))
            refine v_iald (i := i_size) (t0 := 0) X (lt_m_size ) (sh_m_size ) rfl hv93 dX8_region_93 ?_
            refine v_iadd X dX8_region_94 ?_
            refine v_icmp_ge X 116 dX8_region_95 (by decide) (fun h95 => ?_) (fun h95 => ?_)
            ·
              refine v_iinc (v := (i4 + 1)) (lv' := [(4, .int (i4 + 1)), (0, .ref (rh iMO)), (1, .int xa), (2, .int xb), (3, .int xc)]) X 4 dX8_region_116 rfl rfl (by decide) rfl ?_
              refine v_goto (tgt := 53) X dX8_region_119 (by decide) ?_
              have e9 : lp_MO_region_53 xa xb xc (k9 + 1) i4 σ = lp_MO_region_53 xa xb xc k9 (i4 + 1) σ := by simp only [lp_MO_region_53, if_neg h56, if_neg h62, if_neg h66, if_neg h76, if_pos h95]
              rw [e9] at hend
              refine v_lv (lv' := [(0, .ref (rh iMO)), (1, .int xa), (2, .int xb), (3, .int xc), (4, .int (i4 + 1))]) [1, 2, 3, 4, 0] rfl ?_
              exact ih (i4 + 1) σ hI ⟨by have u9 := i_succ h56; omega, by have u9 := i_succ h56; have u8 := h56; rw [ile] at u8; have z : (4 : Int32).toInt = 4 := (by decide); omega⟩ (by have u9 := i_succ h56; omega) hend
            ·
              refine v_aload_n X 0 dX8_region_98 rfl rfl ?_
              refine v_getR (j := i_from) (i := iMO) (k := 3) X (lt_MO ) (sh_MO ) rfl in_MO (by decide) wf_MO_19 rfl (fun _ => rfl) dX8_region_99 ?_
              refine v_iload X 4 dX8_region_102 rfl ?_
              have hv104 : vp_in i4 4 := (vin_mk hi.1 (nle (by decide) h56))
              refine v_iald (i := i_from) (t0 := 0) X (lt_m_from ) (sh_m_from ) rfl hv104 dX8_region_104 ?_
              refine v_iload_n X 2 dX8_region_105 rfl rfl ?_
              refine v_iload_n X 3 dX8_region_106 rfl rfl ?_
              refine v_iadd X dX8_region_107 ?_
              refine v_icmp_ge X 116 dX8_region_108 (by decide) (fun h108 => ?_) (fun h108 => ?_)
              ·
                refine v_iinc (v := (i4 + 1)) (lv' := [(4, .int (i4 + 1)), (0, .ref (rh iMO)), (1, .int xa), (2, .int xb), (3, .int xc)]) X 4 dX8_region_116 rfl rfl (by decide) rfl ?_
                refine v_goto (tgt := 53) X dX8_region_119 (by decide) ?_
                have e9 : lp_MO_region_53 xa xb xc (k9 + 1) i4 σ = lp_MO_region_53 xa xb xc k9 (i4 + 1) σ := by simp only [lp_MO_region_53, if_neg h56, if_neg h62, if_neg h66, if_neg h76, if_neg h95, if_pos h108]
                rw [e9] at hend
                refine v_lv (lv' := [(0, .ref (rh iMO)), (1, .int xa), (2, .int xb), (3, .int xc), (4, .int (i4 + 1))]) [1, 2, 3, 4, 0] rfl ?_
                exact ih (i4 + 1) σ hI ⟨by have u9 := i_succ h56; omega, by have u9 := i_succ h56; have u8 := h56; rw [ile] at u8; have z : (4 : Int32).toInt = 4 := (by decide); omega⟩ (by have u9 := i_succ h56; omega) hend
              ·
                refine v_aload_n X 0 dX8_region_111 rfl rfl ?_
                refine v_iconst (v := 3) X dX8_region_112 (by decide) ?_
                refine v_put (i := iMO) (k := 33) (x := 3) (ty := .int) X (lt_MO ) (sh_MO ) rfl in_MO (by decide) tyX8 tyX8_ok nX8 wf_MO_84 rfl rfl rfl rfl rfl (fun _ => Nat.le_of_ble_eq_true rfl) (fun _ _ => rfl) dX8_region_113 ?_
                generalize hg113 : (up σ iMO 33 3) = g113
                have hI113 : Im g113 := by rw [← hg113]; exact (Im.upMO hI (by decide))
                refine v_iinc (v := (i4 + 1)) (lv' := [(4, .int (i4 + 1)), (0, .ref (rh iMO)), (1, .int xa), (2, .int xb), (3, .int xc)]) X 4 dX8_region_116 rfl rfl (by decide) rfl ?_
                refine v_goto (tgt := 53) X dX8_region_119 (by decide) ?_
                have e9 : lp_MO_region_53 xa xb xc (k9 + 1) i4 σ = lp_MO_region_53 xa xb xc k9 (i4 + 1) g113 := by subst hg113; simp only [lp_MO_region_53, if_neg h56, if_neg h62, if_neg h66, if_neg h76, if_neg h95, if_neg h108]
                rw [e9] at hend
                refine v_lv (lv' := [(0, .ref (rh iMO)), (1, .int xa), (2, .int xb), (3, .int xc), (4, .int (i4 + 1))]) [1, 2, 3, 4, 0] rfl ?_
                exact ih (i4 + 1) g113 hI113 ⟨by have u9 := i_succ h56; omega, by have u9 := i_succ h56; have u8 := h56; rw [ile] at u8; have z : (4 : Int32).toInt = 4 := (by decide); omega⟩ (by have u9 := i_succ h56; omega) hend
def f_MO_region (xa : Int32) (xb : Int32) (xc : Int32) (σ : St) : St :=
  (if (f_MO_set ((if (f_MO_no xa 3) = 0 then (if (f_MO_no xb 95) = 0 then (if (f_MO_no xc 32) = 0 then (if (xb + xc) ≤ 96 then 0 else 1) else 1) else 1) else 1) : Int32) σ).1 = 0 then (f_MO_set ((if (f_MO_no xa 3) = 0 then (if (f_MO_no xb 95) = 0 then (if (f_MO_no xc 32) = 0 then (if (xb + xc) ≤ 96 then 0 else 1) else 1) else 1) else 1) : Int32) σ).2 else (lp_MO_region_53 xa xb xc 5 0 (f_MO_set ((if (f_MO_no xa 3) = 0 then (if (f_MO_no xb 95) = 0 then (if (f_MO_no xc 32) = 0 then (if (xb + xc) ≤ 96 then 0 else 1) else 1) else 1) else 1) : Int32) σ).2))
set_option maxHeartbeats 4000000 in
set_option maxRecDepth 100000 in
theorem c_MO_region (xa : Int32) (xb : Int32) (xc : Int32) (σ : St) (hI : Im σ) : CV l D (tyL cA) rh (rcW rh cA) NW yX8_region cX8_region 5 1 [.ref (rh iMO), .int xa, .int xb, .int xc] σ (f_MO_region xa xb xc σ) := by
  refine CV.of rfl (Nat.le_of_ble_eq_true rfl) ?_
  intro p9 e s m args below meth c A Q X hend
  refine v_lv (lv' := [(0, .ref (rh iMO)), (1, .int xa), (2, .int xb), (3, .int xc)]) [0, 1, 2, 3] rfl ?_
  refine v_aload_n X 0 dX8_region_0 rfl rfl ?_
  refine v_aload_n X 0 dX8_region_1 rfl rfl ?_
  refine v_iload_n X 1 dX8_region_2 rfl rfl ?_
  refine v_iconst (v := 3) X dX8_region_3 (by decide) ?_
  refine v_callV_CI (rest := [.ref (rh iMO)]) X [.int xa, .int 3] (c_MO_no xa 3 σ ) mf_MO_no wi_MO_no wl_MO_no (lt_MO ) (sh_MO ) rfl wm_MO_92 rfl ⟨by decide, by decide⟩ (Nat.le_of_ble_eq_true rfl) ⟨by decide, by decide⟩ dX8_region_4 ?_
  refine v_suff (pc2 := 43) (lv2 := [(0, .ref (rh iMO)), (1, .int xa), (2, .int xb), (3, .int xc)]) (st2 := [.int ((if (f_MO_no xa 3) = 0 then (if (f_MO_no xb 95) = 0 then (if (f_MO_no xc 32) = 0 then (if (xb + xc) ≤ 96 then 0 else 1) else 1) else 1) else 1) : Int32), .ref (rh iMO)]) (σ2 := σ) ?_ (fun J7 => ?_)
  rotate_left
  ·
    refine v_if_ne X 38 dX8_region_7 (by decide) (fun h7 => ?_) (fun h7 => ?_)
    ·
      refine v_iconst (v := 1) X dX8_region_38 (by decide) ?_
      refine v_goto (tgt := 43) X dX8_region_39 (by decide) ?_
      have e9 : (((if (f_MO_no xa 3) = 0 then (if (f_MO_no xb 95) = 0 then (if (f_MO_no xc 32) = 0 then (if (xb + xc) ≤ 96 then 0 else 1) else 1) else 1) else 1) : Int32) : Int32) = 1 := by simp only [if_neg h7]
      rw [e9] at J7
      exact J7
    ·
      refine v_aload_n X 0 dX8_region_10 rfl rfl ?_
      refine v_iload_n X 2 dX8_region_11 rfl rfl ?_
      refine v_bipush (v := 95) X dX8_region_12 (by decide) ?_
      refine v_callV_CI (rest := [.ref (rh iMO)]) X [.int xb, .int 95] (c_MO_no xb 95 σ ) mf_MO_no wi_MO_no wl_MO_no (lt_MO ) (sh_MO ) rfl wm_MO_92 rfl ⟨by decide, by decide⟩ (Nat.le_of_ble_eq_true rfl) ⟨by decide, by decide⟩ dX8_region_14 ?_
      refine v_if_ne X 38 dX8_region_17 (by decide) (fun h17 => ?_) (fun h17 => ?_)
      ·
        refine v_iconst (v := 1) X dX8_region_38 (by decide) ?_
        refine v_goto (tgt := 43) X dX8_region_39 (by decide) ?_
        have e9 : (((if (f_MO_no xa 3) = 0 then (if (f_MO_no xb 95) = 0 then (if (f_MO_no xc 32) = 0 then (if (xb + xc) ≤ 96 then 0 else 1) else 1) else 1) else 1) : Int32) : Int32) = 1 := by simp only [if_pos h7, if_neg h17]
        rw [e9] at J7
        exact J7
      ·
        refine v_aload_n X 0 dX8_region_20 rfl rfl ?_
        refine v_iload_n X 3 dX8_region_21 rfl rfl ?_
        refine v_bipush (v := 32) X dX8_region_22 (by decide) ?_
        refine v_callV_CI (rest := [.ref (rh iMO)]) X [.int xc, .int 32] (c_MO_no xc 32 σ ) mf_MO_no wi_MO_no wl_MO_no (lt_MO ) (sh_MO ) rfl wm_MO_92 rfl ⟨by decide, by decide⟩ (Nat.le_of_ble_eq_true rfl) ⟨by decide, by decide⟩ dX8_region_24 ?_
        refine v_if_ne X 38 dX8_region_27 (by decide) (fun h27 => ?_) (fun h27 => ?_)
        ·
          refine v_iconst (v := 1) X dX8_region_38 (by decide) ?_
          refine v_goto (tgt := 43) X dX8_region_39 (by decide) ?_
          have e9 : (((if (f_MO_no xa 3) = 0 then (if (f_MO_no xb 95) = 0 then (if (f_MO_no xc 32) = 0 then (if (xb + xc) ≤ 96 then 0 else 1) else 1) else 1) else 1) : Int32) : Int32) = 1 := by simp only [if_pos h7, if_pos h17, if_neg h27]
          rw [e9] at J7
          exact J7
        ·
          refine v_iload_n X 2 dX8_region_30 rfl rfl ?_
          refine v_iload_n X 3 dX8_region_31 rfl rfl ?_
          refine v_iadd X dX8_region_32 ?_
          refine v_bipush (v := 96) X dX8_region_33 (by decide) ?_
          refine v_icmp_le X 42 dX8_region_35 (by decide) (fun h35 => ?_) (fun h35 => ?_)
          ·
            refine v_iconst (v := 0) X dX8_region_42 (by decide) ?_
            have e9 : (((if (f_MO_no xa 3) = 0 then (if (f_MO_no xb 95) = 0 then (if (f_MO_no xc 32) = 0 then (if (xb + xc) ≤ 96 then 0 else 1) else 1) else 1) else 1) : Int32) : Int32) = 0 := by simp only [if_pos h7, if_pos h17, if_pos h27, if_pos h35]
            rw [e9] at J7
            exact J7
          ·
            refine v_iconst (v := 1) X dX8_region_38 (by decide) ?_
            refine v_goto (tgt := 43) X dX8_region_39 (by decide) ?_
            have e9 : (((if (f_MO_no xa 3) = 0 then (if (f_MO_no xb 95) = 0 then (if (f_MO_no xc 32) = 0 then (if (xb + xc) ≤ 96 then 0 else 1) else 1) else 1) else 1) : Int32) : Int32) = 1 := by simp only [if_pos h7, if_pos h17, if_pos h27, if_neg h35]
            rw [e9] at J7
            exact J7
  refine v_callV_CI (rest := []) X [.int ((if (f_MO_no xa 3) = 0 then (if (f_MO_no xb 95) = 0 then (if (f_MO_no xc 32) = 0 then (if (xb + xc) ≤ 96 then 0 else 1) else 1) else 1) else 1) : Int32)] (c_MO_set ((if (f_MO_no xa 3) = 0 then (if (f_MO_no xb 95) = 0 then (if (f_MO_no xc 32) = 0 then (if (xb + xc) ≤ 96 then 0 else 1) else 1) else 1) else 1) : Int32) σ ) mf_MO_set wi_MO_set wl_MO_set (lt_MO ) (sh_MO ) rfl wm_MO_96 rfl ⟨by decide, by decide⟩ (Nat.le_of_ble_eq_true rfl) ⟨by decide, by decide⟩ dX8_region_43 ?_
  generalize hg43 : (f_MO_set ((if (f_MO_no xa 3) = 0 then (if (f_MO_no xb 95) = 0 then (if (f_MO_no xc 32) = 0 then (if (xb + xc) ≤ 96 then 0 else 1) else 1) else 1) else 1) : Int32) σ) = g43
  have hI43 : Im g43.2 := by rw [← hg43]; exact (I_MO_set ((if (f_MO_no xa 3) = 0 then (if (f_MO_no xb 95) = 0 then (if (f_MO_no xc 32) = 0 then (if (xb + xc) ≤ 96 then 0 else 1) else 1) else 1) else 1) : Int32) hI)
  refine v_if_ne X 50 dX8_region_46 (by decide) (fun h46 => ?_) (fun h46 => ?_)
  ·
    refine v_iconst (v := 0) X dX8_region_50 (by decide) ?_
    refine v_istore (lv' := [(4, .int 0), (0, .ref (rh iMO)), (1, .int xa), (2, .int xb), (3, .int xc)]) X dX8_region_51 (by decide) rfl ?_
    have e9 : f_MO_region xa xb xc σ = lp_MO_region_53 xa xb xc 5 0 g43.2 := by subst hg43; simp only [f_MO_region, if_neg h46]
    rw [e9] at hend
    refine v_lv (lv' := [(0, .ref (rh iMO)), (1, .int xa), (2, .int xb), (3, .int xc), (4, .int 0)]) [1, 2, 3, 4, 0] rfl ?_
    have hq : vp_in xa 4 := (by subst hg43; exact no3 (ifz1 (set_ok h46)).1)
    exact lc_MO_region_53 xa xb xc hq X 5 0 g43.2 hI43 ⟨by decide, by decide⟩ (by decide) hend
  ·
    have e9 : f_MO_region xa xb xc σ = g43.2 := by subst hg43; simp only [f_MO_region, if_pos h46]
    exact v_endV hend dX8_region_49 e9
-- I_MO_region: by hand
end CLS
