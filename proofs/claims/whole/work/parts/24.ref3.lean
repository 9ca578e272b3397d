
section CLS
variable {l : Launch} {D : va_G} {rh : Nat → Nat} {cA : Nat → ClassId}
def lp_MO_calls_67 (xa : Int32) : Nat → St → Int32 × St
  | 0, σ => (0, σ)
  | k9 + 1, σ => (if (σ i_register (((xa * 16) + 15)).toNatClampNeg) = 1 then (if ((sshr (σ i_readers ((σ i_register (((xa * 16) + 10)).toNatClampNeg)).toNatClampNeg) xa) &&& 1) = 0 then (3, σ) else (if (σ i_register (((xa * 16) + 15)).toNatClampNeg) = 0 then (0, (up σ iMO 25 1)) else (0, (f_MO_put xa 10 ((if (σ i_full ((σ i_register (((xa * 16) + 10)).toNatClampNeg)).toNatClampNeg) = 0 then (-1) else (if ((σ iMO 29) - (σ i_hour ((σ i_register (((xa * 16) + 10)).toNatClampNeg)).toNatClampNeg)) ≤ (σ i_period ((σ i_register (((xa * 16) + 10)).toNatClampNeg)).toNatClampNeg) then ((σ iMO 29) - (σ i_hour ((σ i_register (((xa * 16) + 10)).toNatClampNeg)).toNatClampNeg)) else (-1))) : Int32) σ)))) else (if (σ i_register (((xa * 16) + 15)).toNatClampNeg) = 0 then (0, (up σ iMO 25 1)) else (if (σ i_register (((xa * 16) + 15)).toNatClampNeg) = 2 then (0, (up (up σ i_holds ((σ i_register (((xa * 16) + 10)).toNatClampNeg)).toNatClampNeg ((σ i_register (((xa * 16) + 11)).toNatClampNeg) ^^^ (f_MO_mix (σ iMO 23) (σ i_measure (xa).toNatClampNeg)))) i_seal ((σ i_register (((xa * 16) + 10)).toNatClampNeg)).toNatClampNeg (f_MO_mix (f_MO_mix ((up σ i_holds ((σ i_register (((xa * 16) + 10)).toNatClampNeg)).toNatClampNeg ((σ i_register (((xa * 16) + 11)).toNatClampNeg) ^^^ (f_MO_mix (σ iMO 23) (σ i_measure (xa).toNatClampNeg)))) iMO 23) (σ i_register (((xa * 16) + 11)).toNatClampNeg)) ((up σ i_holds ((σ i_register (((xa * 16) + 10)).toNatClampNeg)).toNatClampNeg ((σ i_register (((xa * 16) + 11)).toNatClampNeg) ^^^ (f_MO_mix (σ iMO 23) (σ i_measure (xa).toNatClampNeg)))) i_measure (xa).toNatClampNeg)))) else (if (σ i_register (((xa * 16) + 15)).toNatClampNeg) = 3 then (if ((if (σ i_seal ((σ i_register (((xa * 16) + 10)).toNatClampNeg)).toNatClampNeg) = (f_MO_mix (f_MO_mix (σ iMO 23) ((σ i_holds ((σ i_register (((xa * 16) + 10)).toNatClampNeg)).toNatClampNeg) ^^^ (f_MO_mix (σ iMO 23) (σ i_measure (xa).toNatClampNeg)))) (σ i_measure (xa).toNatClampNeg)) then 1 else 0) : Int32) = 0 then (0, (f_MO_put xa 10 ((if ((if (σ i_seal ((σ i_register (((xa * 16) + 10)).toNatClampNeg)).toNatClampNeg) = (f_MO_mix (f_MO_mix (σ iMO 23) ((σ i_holds ((σ i_register (((xa * 16) + 10)).toNatClampNeg)).toNatClampNeg) ^^^ (f_MO_mix (σ iMO 23) (σ i_measure (xa).toNatClampNeg)))) (σ i_measure (xa).toNatClampNeg)) then 1 else 0) : Int32) = 0 then 0 else 1) : Int32) σ)) else (0, (f_MO_put xa 11 ((σ i_holds ((σ i_register (((xa * 16) + 10)).toNatClampNeg)).toNatClampNeg) ^^^ (f_MO_mix (σ iMO 23) (σ i_measure (xa).toNatClampNeg))) (f_MO_put xa 10 ((if ((if (σ i_seal ((σ i_register (((xa * 16) + 10)).toNatClampNeg)).toNatClampNeg) = (f_MO_mix (f_MO_mix (σ iMO 23) ((σ i_holds ((σ i_register (((xa * 16) + 10)).toNatClampNeg)).toNatClampNeg) ^^^ (f_MO_mix (σ iMO 23) (σ i_measure (xa).toNatClampNeg)))) (σ i_measure (xa).toNatClampNeg)) then 1 else 0) : Int32) = 0 then 0 else 1) : Int32) σ)))) else (0, (f_MO_put xa 10 (σ i_measure (xa).toNatClampNeg) σ))))))
set_option maxHeartbeats 4000000 in
set_option maxRecDepth 100000 in
theorem lc_MO_calls_67 (xa : Int32) (hq : vp_in xa 4) {p9 : Program} {e : Env} {s : State} {m : MethodId} {args : Array Value} {below : List Frame} {meth : Method} {c : Code} {A : Nat → Prop} {Q : State → Prop} (X : Cx p9 s m args meth c D (tyL cA) A cX8_calls 8 yX8_calls.cls) : ∀ (k9 : Nat)  (σ : St), (hI : Im σ) → (hx : (¬ (σ i_register ((xa * 16) + 15).toNatClampNeg) ≤ 0 ∧ ¬ 4 ≤ (σ i_register ((xa * 16) + 15).toNatClampNeg)) → vp_in (σ i_register ((xa * 16) + 10).toNatClampNeg) 4) → ((0 : Int) < (k9 : Int)) → (∀ (pc : Nat) (lv : List (Nat × Value)), decode cX8_calls pc = .ok (.ireturn, 1) → Vz p9 l e (Rz 1) s m args below meth c D A 8 rh (rcW rh cA) NW 0 0 Q pc lv [.int (lp_MO_calls_67 xa k9  σ).1] (lp_MO_calls_67 xa k9  σ).2) → Vz p9 l e (Rz 1) s m args below meth c D A 8 rh (rcW rh cA) NW 0 0 Q 67 [(0, .ref (rh iMO)), (1, .int xa), (2, .int (σ i_register (((xa * 16) + 15)).toNatClampNeg)), (3, .int (σ i_register (((xa * 16) + 10)).toNatClampNeg)), (4, .int (σ i_register (((xa * 16) + 11)).toNatClampNeg))] [] σ := by
  intro k9
  induction k9 with
  | zero =>
    intro  σ hI hx hmu hend
    exact absurd hmu (by omega)
  | succ k9 ih =>
    intro  σ hI hx hmu hend
    refine v_iload_n X 2 dX8_calls_67 rfl rfl ?_
    refine v_iconst (v := 1) X dX8_calls_68 (by decide) ?_
    refine v_icmp_ne X 87 dX8_calls_69 (by decide) (fun h69 => ?_) (fun h69 => ?_)
    ·
      refine v_aload_n X 0 dX8_calls_87 rfl rfl ?_
      refine v_aload_n X 0 dX8_calls_88 rfl rfl ?_
      refine v_getI (i := iMO) (k := 23) X (lt_MO ) (sh_MO ) rfl in_MO (by decide) wf_MO_80 rfl (fun _ => rfl) dX8_calls_89 ?_
      refine v_aload_n X 0 dX8_calls_92 rfl rfl ?_
      refine v_getR (j := i_measure) (i := iMO) (k := 11) X (lt_MO ) (sh_MO ) rfl in_MO (by decide) wf_MO_43 rfl (fun _ => rfl) dX8_calls_93 ?_
      refine v_iload_n X 1 dX8_calls_96 rfl rfl ?_
      have hv97 : vp_in xa 4 := hq
      refine v_iald (i := i_measure) (t0 := 0) X (lt_m_measure ) (sh_m_measure ) rfl hv97 dX8_calls_97 ?_
      refine v_callV_CI (rest := []) X [.int (σ iMO 23), .int (σ i_measure (xa).toNatClampNeg)] (c_MO_mix (σ iMO 23) (σ i_measure (xa).toNatClampNeg) σ ) mf_MO_mix wi_MO_mix wl_MO_mix (lt_MO ) (sh_MO ) rfl wm_MO_128 rfl ⟨by decide, by decide⟩ (Nat.le_of_ble_eq_true rfl) ⟨by decide, by decide⟩ dX8_calls_98 ?_
      refine v_istore (lv' := [(5, .int (f_MO_mix (σ iMO 23) (σ i_measure (xa).toNatClampNeg))), (0, .ref (rh iMO)), (1, .int xa), (2, .int (σ i_register (((xa * 16) + 15)).toNatClampNeg)), (3, .int (σ i_register (((xa * 16) + 10)).toNatClampNeg)), (4, .int (σ i_register (((xa * 16) + 11)).toNatClampNeg))]) X dX8_calls_101 (by decide) rfl ?_
      refine v_iload_n X 3 dX8_calls_103 rfl rfl ?_
      refine v_if_ne X 115 dX8_calls_104 (by decide) (fun h104 => ?_) (fun h104 => ?_)
      ·
        refine v_iload_n X 3 dX8_calls_115 rfl rfl ?_
        refine v_iconst (v := 1) X dX8_calls_116 (by decide) ?_
        refine v_icmp_ne X 174 dX8_calls_117 (by decide) (fun h117 => ?_) (fun h117 => ?_)
        ·
          refine v_iload_n X 3 dX8_calls_174 rfl rfl ?_
          refine v_iconst (v := 2) X dX8_calls_175 (by decide) ?_
          refine v_icmp_ne X 219 dX8_calls_176 (by decide) (fun h176 => ?_) (fun h176 => ?_)
          ·
            refine v_iload_n X 3 dX8_calls_219 rfl rfl ?_
            refine v_iconst (v := 3) X dX8_calls_220 (by decide) ?_
            refine v_icmp_ne X 305 dX8_calls_221 (by decide) (fun h221 => ?_) (fun h221 => ?_)
            ·
              refine v_aload_n X 1 dX8_calls_305 rfl rfl ?_
              refine v_iload_n X 2 dX8_calls_306 rfl rfl ?_
              refine v_bipush (v := 10) X dX8_calls_307 (by decide) ?_
              refine v_aload_n X 1 dX8_calls_309 rfl rfl ?_
              refine v_getR (j := i_measure) (i := iMO) (k := 11) X (lt_MO ) (sh_MO ) rfl in_MO (by decide) wf_MO_43 rfl (fun _ => rfl) dX8_calls_310 ?_
              refine v_iload_n X 2 dX8_calls_313 rfl rfl ?_
              have hv314 : vp_in xa 4 := hq
              refine v_iald (i := i_measure) (t0 := 0) X (lt_m_measure ) (sh_m_measure ) rfl hv314 dX8_calls_314 ?_
              refine v_callV_CV (rest := []) X [.int xa, .int 10, .int (σ i_measure (xa).toNatClampNeg)] (c_MO_put xa 10 (σ i_measure (xa).toNatClampNeg) σ (by assumption) (vin_mk (by decide) (by decide))) mf_MO_put wi_MO_put wl_MO_put (lt_MO ) (sh_MO ) rfl wm_MO_143 rfl ⟨by decide, by decide⟩ (Nat.le_of_ble_eq_true rfl) ⟨by decide, by decide⟩ dX8_calls_315 ?_
              generalize hg315 : (f_MO_put xa 10 (σ i_measure (xa).toNatClampNeg) σ) = g315
              have hI315 : Im g315 := by rw [← hg315]; exact (I_MO_put xa 10 (σ i_measure (xa).toNatClampNeg) hI (by assumption) (vin_mk (by decide) (by decide)))
              refine v_iconst (v := 0) X dX8_calls_318 (by decide) ?_
              have e9 : lp_MO_calls_67 xa (k9 + 1)  σ = (0, g315) := by subst hg315; simp only [lp_MO_calls_67, if_neg h69, if_neg h104, if_neg h176, if_neg h221]
              exact v_endI hend dX8_calls_319 (by rw [e9]) (by rw [e9])
            ·
              refine v_aload_n X 1 dX8_calls_224 rfl rfl ?_
              refine v_getR (j := i_holds) (i := iMO) (k := 21) X (lt_MO ) (sh_MO ) rfl in_MO (by decide) wf_MO_74 rfl (fun _ => rfl) dX8_calls_225 ?_
              refine v_iload_n X 4 dX8_calls_228 rfl rfl ?_
              have hv229 : vp_in (σ i_register (((xa * 16) + 10)).toNatClampNeg) 4 := (hx (by rw [h221]; decide))
              refine v_iald (i := i_holds) (t0 := 0) X (lt_m_holds ) (sh_m_holds ) rfl hv229 dX8_calls_229 ?_
              refine v_iload X 0 dX8_calls_230 rfl ?_
              refine v_ixor X dX8_calls_232 ?_
              refine v_istore (lv' := [(6, .int ((σ i_holds ((σ i_register (((xa * 16) + 10)).toNatClampNeg)).toNatClampNeg) ^^^ (f_MO_mix (σ iMO 23) (σ i_measure (xa).toNatClampNeg)))), (5, .int (f_MO_mix (σ iMO 23) (σ i_measure (xa).toNatClampNeg))), (0, .ref (rh iMO)), (1, .int xa), (2, .int (σ i_register (((xa * 16) + 15)).toNatClampNeg)), (3, .int (σ i_register (((xa * 16) + 10)).toNatClampNeg)), (4, .int (σ i_register (((xa * 16) + 11)).toNatClampNeg))]) X dX8_calls_233 (by decide) rfl ?_
              refine v_aload_n X 2 dX8_calls_235 rfl rfl ?_
              refine v_getR (j := i_seal) (i := iMO) (k := 22) X (lt_MO ) (sh_MO ) rfl in_MO (by decide) wf_MO_77 rfl (fun _ => rfl) dX8_calls_236 ?_
              refine v_iload_n X 5 dX8_calls_239 rfl rfl ?_
              have hv240 : vp_in (σ i_register (((xa * 16) + 10)).toNatClampNeg) 4 := (hx (by rw [h221]; decide))
              refine v_iald (i := i_seal) (t0 := 0) X (lt_m_seal ) (sh_m_seal ) rfl hv240 dX8_calls_240 ?_
              refine v_aload_n X 2 dX8_calls_241 rfl rfl ?_
              refine v_aload_n X 2 dX8_calls_242 rfl rfl ?_
              refine v_aload_n X 2 dX8_calls_243 rfl rfl ?_
              refine v_getI (i := iMO) (k := 23) X (lt_MO ) (sh_MO ) rfl in_MO (by decide) wf_MO_80 rfl (fun _ => rfl) dX8_calls_244 ?_
              refine v_iload X 0 dX8_calls_247 rfl ?_
              refine v_callV_CI (rest := [.ref (rh iMO), .int (σ i_seal ((σ i_register (((xa * 16) + 10)).toNatClampNeg)).toNatClampNeg)]) X [.int (σ iMO 23), .int ((σ i_holds ((σ i_register (((xa * 16) + 10)).toNatClampNeg)).toNatClampNeg) ^^^ (f_MO_mix (σ iMO 23) (σ i_measure (xa).toNatClampNeg)))] (c_MO_mix (σ iMO 23) ((σ i_holds ((σ i_register (((xa * 16) + 10)).toNatClampNeg)).toNatClampNeg) ^^^ (f_MO_mix (σ iMO 23) (σ i_measure (xa).toNatClampNeg))) σ ) mf_MO_mix wi_MO_mix wl_MO_mix (lt_MO ) (sh_MO ) rfl wm_MO_128 rfl ⟨by decide, by decide⟩ (Nat.le_of_ble_eq_true rfl) ⟨by decide, by decide⟩ dX8_calls_249 ?_
              refine v_aload_n X 2 dX8_calls_252 rfl rfl ?_
              refine v_getR (j := i_measure) (i := iMO) (k := 11) X (lt_MO ) (sh_MO ) rfl in_MO (by decide) wf_MO_43 rfl (fun _ => rfl) dX8_calls_253 ?_
              refine v_iload_n X 3 dX8_calls_256 rfl rfl ?_
              have hv257 : vp_in xa 4 := hq
              refine v_iald (i := i_measure) (t0 := 0) X (lt_m_measure ) (sh_m_measure ) rfl hv257 dX8_calls_257 ?_
              refine v_callV_CI (rest := [.int (σ i_seal ((σ i_register (((xa * 16) + 10)).toNatClampNeg)).toNatClampNeg)]) X [.int (f_MO_mix (σ iMO 23) ((σ i_holds ((σ i_register (((xa * 16) + 10)).toNatClampNeg)).toNatClampNeg) ^^^ (f_MO_mix (σ iMO 23) (σ i_measure (xa).toNatClampNeg)))), .int (σ i_measure (xa).toNatClampNeg)] (c_MO_mix (f_MO_mix (σ iMO 23) ((σ i_holds ((σ i_register (((xa * 16) + 10)).toNatClampNeg)).toNatClampNeg) ^^^ (f_MO_mix (σ iMO 23) (σ i_measure (xa).toNatClampNeg)))) (σ i_measure (xa).toNatClampNeg) σ ) mf_MO_mix wi_MO_mix wl_MO_mix (lt_MO ) (sh_MO ) rfl wm_MO_128 rfl ⟨by decide, by decide⟩ (Nat.le_of_ble_eq_true rfl) ⟨by decide, by decide⟩ dX8_calls_258 ?_
              refine v_suff (pc2 := 269) (lv2 := [(6, .int ((σ i_holds ((σ i_register (((xa * 16) + 10)).toNatClampNeg)).toNatClampNeg) ^^^ (f_MO_mix (σ iMO 23) (σ i_measure (xa).toNatClampNeg)))), (5, .int (f_MO_mix (σ iMO 23) (σ i_measure (xa).toNatClampNeg))), (0, .ref (rh iMO)), (1, .int xa), (2, .int (σ i_register (((xa * 16) + 15)).toNatClampNeg)), (3, .int (σ i_register (((xa * 16) + 10)).toNatClampNeg)), (4, .int (σ i_register (((xa * 16) + 11)).toNatClampNeg))]) (st2 := [.int ((if (σ i_seal ((σ i_register (((xa * 16) + 10)).toNatClampNeg)).toNatClampNeg) = (f_MO_mix (f_MO_mix (σ iMO 23) ((σ i_holds ((σ i_register (((xa * 16) + 10)).toNatClampNeg)).toNatClampNeg) ^^^ (f_MO_mix (σ iMO 23) (σ i_measure (xa).toNatClampNeg)))) (σ i_measure (xa).toNatClampNeg)) then 1 else 0) : Int32)]) (σ2 := σ) ?_ (fun J261 => ?_)
              rotate_left
              ·
                refine v_icmp_ne X 268 dX8_calls_261 (by decide) (fun h261 => ?_) (fun h261 => ?_)
                ·
                  refine v_iconst (v := 0) X dX8_calls_268 (by decide) ?_
                  have e9 : (((if (σ i_seal ((σ i_register (((xa * 16) + 10)).toNatClampNeg)).toNatClampNeg) = (f_MO_mix (f_MO_mix (σ iMO 23) ((σ i_holds ((σ i_register (((xa * 16) + 10)).toNatClampNeg)).toNatClampNeg) ^^^ (f_MO_mix (σ iMO 23) (σ i_measure (xa).toNatClampNeg)))) (σ i_measure (xa).toNatClampNeg)) then 1 else 0) : Int32) : Int32) = 0 := by simp only [if_neg h261]
                  rw [e9] at J261
                  exact J261
                ·
                  refine v_iconst (v := 1) X dX8_calls_264 (by decide) ?_
                  refine v_goto (tgt := 269) X dX8_calls_265 (by decide) ?_
                  have e9 : (((if (σ i_seal ((σ i_register (((xa * 16) + 10)).toNatClampNeg)).toNatClampNeg) = (f_MO_mix (f_MO_mix (σ iMO 23) ((σ i_holds ((σ i_register (((xa * 16) + 10)).toNatClampNeg)).toNatClampNeg) ^^^ (f_MO_mix (σ iMO 23) (σ i_measure (xa).toNatClampNeg)))) (σ i_measure (xa).toNatClampNeg)) then 1 else 0) : Int32) : Int32) = 1 := by simp only [if_pos h261]
                  rw [e9] at J261
                  exact J261
              refine v_istore (lv' := [(7, .int ((if (σ i_seal ((σ i_register (((xa * 16) + 10)).toNatClampNeg)).toNatClampNeg) = (f_MO_mix (f_MO_mix (σ iMO 23) ((σ i_holds ((σ i_register (((xa * 16) + 10)).toNatClampNeg)).toNatClampNeg) ^^^ (f_MO_mix (σ iMO 23) (σ i_measure (xa).toNatClampNeg)))) (σ i_measure (xa).toNatClampNeg)) then 1 else 0) : Int32)), (6, .int ((σ i_holds ((σ i_register (((xa * 16) + 10)).toNatClampNeg)).toNatClampNeg) ^^^ (f_MO_mix (σ iMO 23) (σ i_measure (xa).toNatClampNeg)))), (5, .int (f_MO_mix (σ iMO 23) (σ i_measure (xa).toNatClampNeg))), (0, .ref (rh iMO)), (1, .int xa), (2, .int (σ i_register (((xa * 16) + 15)).toNatClampNeg)), (3, .int (σ i_register (((xa * 16) + 10)).toNatClampNeg)), (4, .int (σ i_register (((xa * 16) + 11)).toNatClampNeg))]) X dX8_calls_269 (by decide) rfl ?_
              refine v_aload_n X 3 dX8_calls_271 rfl rfl ?_
              refine v_iload_n X 4 dX8_calls_272 rfl rfl ?_
              refine v_bipush (v := 10) X dX8_calls_273 (by decide) ?_
              refine v_iload X 0 dX8_calls_275 rfl ?_
              refine v_suff (pc2 := 285) (lv2 := [(7, .int ((if (σ i_seal ((σ i_register (((xa * 16) + 10)).toNatClampNeg)).toNatClampNeg) = (f_MO_mix (f_MO_mix (σ iMO 23) ((σ i_holds ((σ i_register (((xa * 16) + 10)).toNatClampNeg)).toNatClampNeg) ^^^ (f_MO_mix (σ iMO 23) (σ i_measure (xa).toNatClampNeg)))) (σ i_measure (xa).toNatClampNeg)) then 1 else 0) : Int32)), (6, .int ((σ i_holds ((σ i_register (((xa * 16) + 10)).toNatClampNeg)).toNatClampNeg) ^^^ (f_MO_mix (σ iMO 23) (σ i_measure (xa).toNatClampNeg)))), (5, .int (f_MO_mix (σ iMO 23) (σ i_measure (xa).toNatClampNeg))), (0, .ref (rh iMO)), (1, .int xa), (2, .int (σ i_register (((xa * 16) + 15)).toNatClampNeg)), (3, .int (σ i_register (((xa * 16) + 10)).toNatClampNeg)), (4, .int (σ i_register (((xa * 16) + 11)).toNatClampNeg))]) (st2 := [.int ((if ((if (σ i_seal ((σ i_register (((xa * 16) + 10)).toNatClampNeg)).toNatClampNeg) = (f_MO_mix (f_MO_mix (σ iMO 23) ((σ i_holds ((σ i_register (((xa * 16) + 10)).toNatClampNeg)).toNatClampNeg) ^^^ (f_MO_mix (σ iMO 23) (σ i_measure (xa).toNatClampNeg)))) (σ i_measure (xa).toNatClampNeg)) then 1 else 0) : Int32) = 0 then 0 else 1) : Int32), .int 10, .int xa, .ref (rh iMO)]) (σ2 := σ) ?_ (fun J277 => ?_)
              rotate_left
              ·
                refine v_if_eq X 284 dX8_calls_277 (by decide) (fun h277 => ?_) (fun h277 => ?_)
                ·
                  refine v_iconst (v := 0) X dX8_calls_284 (by decide) ?_
                  have e9 : (((if ((if (σ i_seal ((σ i_register (((xa * 16) + 10)).toNatClampNeg)).toNatClampNeg) = (f_MO_mix (f_MO_mix (σ iMO 23) ((σ i_holds ((σ i_register (((xa * 16) + 10)).toNatClampNeg)).toNatClampNeg) ^^^ (f_MO_mix (σ iMO 23) (σ i_measure (xa).toNatClampNeg)))) (σ i_measure (xa).toNatClampNeg)) then 1 else 0) : Int32) = 0 then 0 else 1) : Int32) : Int32) = 0 := by simp only [if_pos h277]
                  rw [e9] at J277
                  exact J277
                ·
                  refine v_iconst (v := 1) X dX8_calls_280 (by decide) ?_
                  refine v_goto (tgt := 285) X dX8_calls_281 (by decide) ?_
                  have e9 : (((if ((if (σ i_seal ((σ i_register (((xa * 16) + 10)).toNatClampNeg)).toNatClampNeg) = (f_MO_mix (f_MO_mix (σ iMO 23) ((σ i_holds ((σ i_register (((xa * 16) + 10)).toNatClampNeg)).toNatClampNeg) ^^^ (f_MO_mix (σ iMO 23) (σ i_measure (xa).toNatClampNeg)))) (σ i_measure (xa).toNatClampNeg)) then 1 else 0) : Int32) = 0 then 0 else 1) : Int32) : Int32) = 1 := by simp only [if_neg h277]
                  rw [e9] at J277
                  exact J277
              refine v_callV_CV (rest := []) X [.int xa, .int 10, .int ((if ((if (σ i_seal ((σ i_register (((xa * 16) + 10)).toNatClampNeg)).toNatClampNeg) = (f_MO_mix (f_MO_mix (σ iMO 23) ((σ i_holds ((σ i_register (((xa * 16) + 10)).toNatClampNeg)).toNatClampNeg) ^^^ (f_MO_mix (σ iMO 23) (σ i_measure (xa).toNatClampNeg)))) (σ i_measure (xa).toNatClampNeg)) then 1 else 0) : Int32) = 0 then 0 else 1) : Int32)] (c_MO_put xa 10 ((if ((if (σ i_seal ((σ i_register (((xa * 16) + 10)).toNatClampNeg)).toNatClampNeg) = (f_MO_mix (f_MO_mix (σ iMO 23) ((σ i_holds ((σ i_register (((xa * 16) + 10)).toNatClampNeg)).toNatClampNeg) ^^^ (f_MO_mix (σ iMO 23) (σ i_measure (xa).toNatClampNeg)))) (σ i_measure (xa).toNatClampNeg)) then 1 else 0) : Int32) = 0 then 0 else 1) : Int32) σ (by assumption) (vin_mk (by decide) (by decide))) mf_MO_put wi_MO_put wl_MO_put (lt_MO ) (sh_MO ) rfl wm_MO_143 rfl ⟨by decide, by decide⟩ (Nat.le_of_ble_eq_true rfl) ⟨by decide, by decide⟩ dX8_calls_285 ?_
              generalize hg285 : (f_MO_put xa 10 ((if ((if (σ i_seal ((σ i_register (((xa * 16) + 10)).toNatClampNeg)).toNatClampNeg) = (f_MO_mix (f_MO_mix (σ iMO 23) ((σ i_holds ((σ i_register (((xa * 16) + 10)).toNatClampNeg)).toNatClampNeg) ^^^ (f_MO_mix (σ iMO 23) (σ i_measure (xa).toNatClampNeg)))) (σ i_measure (xa).toNatClampNeg)) then 1 else 0) : Int32) = 0 then 0 else 1) : Int32) σ) = g285
              have hI285 : Im g285 := by rw [← hg285]; exact (I_MO_put xa 10 ((if ((if (σ i_seal ((σ i_register (((xa * 16) + 10)).toNatClampNeg)).toNatClampNeg) = (f_MO_mix (f_MO_mix (σ iMO 23) ((σ i_holds ((σ i_register (((xa * 16) + 10)).toNatClampNeg)).toNatClampNeg) ^^^ (f_MO_mix (σ iMO 23) (σ i_measure (xa).toNatClampNeg)))) (σ i_measure (xa).toNatClampNeg)) then 1 else 0) : Int32) = 0 then 0 else 1) : Int32) hI (by assumption) (vin_mk (by decide) (by decide)))
              refine v_iload X 0 dX8_calls_288 rfl ?_
              refine v_if_eq X 302 dX8_calls_290 (by decide) (fun h290 => ?_) (fun h290 => ?_)
              ·
                refine v_goto (tgt := 318) X dX8_calls_302 (by decide) ?_
                refine v_iconst (v := 0) X dX8_calls_318 (by decide) ?_
                have e9 : lp_MO_calls_67 xa (k9 + 1)  σ = (0, g285) := by subst hg285; simp only [lp_MO_calls_67, if_neg h69, if_neg h104, if_neg h176, if_pos h221, if_pos h290]
                exact v_endI hend dX8_calls_319 (by rw [e9]) (by rw [e9])
              ·
                refine v_aload_n X 3 dX8_calls_293 rfl rfl ?_
                refine v_iload_n X 4 dX8_calls_294 rfl rfl ?_
                refine v_bipush (v := 11) X dX8_calls_295 (by decide) ?_
                refine v_iload X 1 dX8_calls_297 rfl ?_
                refine v_callV_CV (rest := []) X [.int xa, .int 11, .int ((σ i_holds ((σ i_register (((xa * 16) + 10)).toNatClampNeg)).toNatClampNeg) ^^^ (f_MO_mix (σ iMO 23) (σ i_measure (xa).toNatClampNeg)))] (c_MO_put xa 11 ((σ i_holds ((σ i_register (((xa * 16) + 10)).toNatClampNeg)).toNatClampNeg) ^^^ (f_MO_mix (σ iMO 23) (σ i_measure (xa).toNatClampNeg))) g285 (by assumption) (vin_mk (by decide) (by decide))) mf_MO_put wi_MO_put wl_MO_put (lt_MO ) (sh_MO ) rfl wm_MO_143 rfl ⟨by decide, by decide⟩ (Nat.le_of_ble_eq_true rfl) ⟨by decide, by decide⟩ dX8_calls_299 ?_
                generalize hg299 : (f_MO_put xa 11 ((σ i_holds ((σ i_register (((xa * 16) + 10)).toNatClampNeg)).toNatClampNeg) ^^^ (f_MO_mix (σ iMO 23) (σ i_measure (xa).toNatClampNeg))) g285) = g299
                have hI299 : Im g299 := by rw [← hg299]; exact (I_MO_put xa 11 ((σ i_holds ((σ i_register (((xa * 16) + 10)).toNatClampNeg)).toNatClampNeg) ^^^ (f_MO_mix (σ iMO 23) (σ i_measure (xa).toNatClampNeg))) hI285 (by assumption) (vin_mk (by decide) (by decide)))
                refine v_goto (tgt := 318) X dX8_calls_302 (by decide) ?_
                refine v_iconst (v := 0) X dX8_calls_318 (by decide) ?_
                have e9 : lp_MO_calls_67 xa (k9 + 1)  σ = (0, g299) := by subst hg285; subst hg299; simp only [lp_MO_calls_67, if_neg h69, if_neg h104, if_neg h176, if_pos h221, if_neg h290]
                exact v_endI hend dX8_calls_319 (by rw [e9]) (by rw [e9])
          ·
            refine v_aload_n X 1 dX8_calls_179 rfl rfl ?_
            refine v_getR (j := i_holds) (i := iMO) (k := 21) X (lt_MO ) (sh_MO ) rfl in_MO (by decide) wf_MO_74 rfl (fun _ => rfl) dX8_calls_180 ?_
            refine v_iload_n X 4 dX8_calls_183 rfl rfl ?_
            refine v_iload X 5 dX8_calls_184 rfl ?_
            refine v_iload X 0 dX8_calls_186 rfl ?_
            refine v_ixor X dX8_calls_188 ?_
            have hv189 : vp_in (σ i_register (((xa * 16) + 10)).toNatClampNeg) 4 := (hx (by rw [h176]; decide))
            refine v_iast (i := i_holds) (t0 := 0) X (lt_m_holds ) (sh_m_holds ) rfl hv189 dX8_calls_189 ?_
            generalize hg189 : (up σ i_holds ((σ i_register (((xa * 16) + 10)).toNatClampNeg)).toNatClampNeg ((σ i_register (((xa * 16) + 11)).toNatClampNeg) ^^^ (f_MO_mix (σ iMO 23) (σ i_measure (xa).toNatClampNeg)))) = g189
            have hI189 : Im g189 := by rw [← hg189]; exact (Im.upA hI (by decide))
            refine v_aload_n X 1 dX8_calls_190 rfl rfl ?_
            refine v_getR (j := i_seal) (i := iMO) (k := 22) X (lt_MO ) (sh_MO ) rfl in_MO (by decide) wf_MO_77 rfl (fun _ => rfl) dX8_calls_191 ?_
            refine v_iload_n X 4 dX8_calls_194 rfl rfl ?_
            refine v_aload_n X 1 dX8_calls_195 rfl rfl ?_
            refine v_aload_n X 1 dX8_calls_196 rfl rfl ?_
            refine v_aload_n X 1 dX8_calls_197 rfl rfl ?_
            refine v_getI (i := iMO) (k := 23) X (lt_MO ) (sh_MO ) rfl in_MO (by decide) wf_MO_80 rfl (fun _ => rfl) dX8_calls_198 ?_
            refine v_iload X 5 dX8_calls_201 rfl ?_
            refine v_callV_CI (rest := [.ref (rh iMO), .int (σ i_register (((xa * 16) + 10)).toNatClampNeg), .ref (rh i_seal)]) X [.int (g189 iMO 23), .int (σ i_register (((xa * 16) + 11)).toNatClampNeg)] (c_MO_mix (g189 iMO 23) (σ i_register (((xa * 16) + 11)).toNatClampNeg) g189 ) mf_MO_mix wi_MO_mix wl_MO_mix (lt_MO ) (sh_MO ) rfl wm_MO_128 rfl ⟨by decide, by decide⟩ (Nat.le_of_ble_eq_true rfl) ⟨by decide, by decide⟩ dX8_calls_203 ?_
            refine v_aload_n X 1 dX8_calls_206 rfl rfl ?_
            refine v_getR (j := i_measure) (i := iMO) (k := 11) X (lt_MO ) (sh_MO ) rfl in_MO (by decide) wf_MO_43 rfl (fun _ => rfl) dX8_calls_207 ?_
            refine v_iload_n X 2 dX8_calls_210 rfl rfl ?_
            have hv211 : vp_in xa 4 := hq
            refine v_iald (i := i_measure) (t0 := 0) X (lt_m_measure ) (sh_m_measure ) rfl hv211 dX8_calls_211 ?_
            refine v_callV_CI (rest := [.int (σ i_register (((xa * 16) + 10)).toNatClampNeg), .ref (rh i_seal)]) X [.int (f_MO_mix (g189 iMO 23) (σ i_register (((xa * 16) + 11)).toNatClampNeg)), .int (g189 i_measure (xa).toNatClampNeg)] (c_MO_mix (f_MO_mix (g189 iMO 23) (σ i_register (((xa * 16) + 11)).toNatClampNeg)) (g189 i_measure (xa).toNatClampNeg) g189 ) mf_MO_mix wi_MO_mix wl_MO_mix (lt_MO ) (sh_MO ) rfl wm_MO_128 rfl ⟨by decide, by decide⟩ (Nat.le_of_ble_eq_true rfl) ⟨by decide, by decide⟩ dX8_calls_212 ?_
            have hv215 : vp_in (σ i_register (((xa * 16) + 10)).toNatClampNeg) 4 := (hx (by rw [h176]; decide))
            refine v_iast (i := i_seal) (t0 := 0) X (lt_m_seal ) (sh_m_seal ) rfl hv215 dX8_calls_215 ?_
            generalize hg215 : (up g189 i_seal ((σ i_register (((xa * 16) + 10)).toNatClampNeg)).toNatClampNeg (f_MO_mix (f_MO_mix (g189 iMO 23) (σ i_register (((xa * 16) + 11)).toNatClampNeg)) (g189 i_measure (xa).toNatClampNeg))) = g215
            have hI215 : Im g215 := by rw [← hg215]; exact (Im.upA hI189 (by decide))
            refine v_goto (tgt := 318) X dX8_calls_216 (by decide) ?_
            refine v_iconst (v := 0) X dX8_calls_318 (by decide) ?_
            have e9 : lp_MO_calls_67 xa (k9 + 1)  σ = (0, g215) := by subst hg189; subst hg215; simp only [lp_MO_calls_67, if_neg h69, if_neg h104, if_pos h176]
            exact v_endI hend dX8_calls_319 (by rw [e9]) (by rw [e9])
        · exact absurd h117 h69
      ·
        refine v_aload_n X 1 dX8_calls_107 rfl rfl ?_
        refine v_iconst (v := 1) X dX8_calls_108 (by decide) ?_
        refine v_put (i := iMO) (k := 25) (x := 1) (ty := .boolean) X (lt_MO ) (sh_MO ) rfl in_MO (by decide) tyX8 tyX8_ok nX8 wf_MO_118 rfl rfl rfl (zN (Or.inr rfl)) (zF (Or.inr rfl)) (fun _ => Nat.le_of_ble_eq_true rfl) (fun _ _ => rfl) dX8_calls_109 ?_
        generalize hg109 : (up σ iMO 25 1) = g109
        have hI109 : Im g109 := by rw [← hg109]; exact (Im.upMO hI (by decide))
        refine v_goto (tgt := 318) X dX8_calls_112 (by decide) ?_
        refine v_iconst (v := 0) X dX8_calls_318 (by decide) ?_
        have e9 : lp_MO_calls_67 xa (k9 + 1)  σ = (0, g109) := by subst hg109; simp only [lp_MO_calls_67, if_neg h69, if_pos h104]
        exact v_endI hend dX8_calls_319 (by rw [e9]) (by rw [e9])
    ·
      refine v_aload_n X 0 dX8_calls_72 rfl rfl ?_
      refine v_getR (j := i_readers) (i := iMO) (k := 17) X (lt_MO ) (sh_MO ) rfl in_MO (by decide) wf_MO_62 rfl (fun _ => rfl) dX8_calls_73 ?_
      refine v_iload_n X 3 dX8_calls_76 rfl rfl ?_
      have hv77 : vp_in (σ i_register (((xa * 16) + 10)).toNatClampNeg) 4 := (hx (by rw [h69]; decide))
      refine v_iald (i := i_readers) (t0 := 0) X (lt_m_readers ) (sh_m_readers ) rfl hv77 dX8_calls_77 ?_
      refine v_iload_n X 1 dX8_calls_78 rfl rfl ?_
      refine v_ishr X dX8_calls_79 ?_
      refine v_iconst (v := 1) X dX8_calls_80 (by decide) ?_
      refine v_iand X dX8_calls_81 ?_
      refine v_if_ne X 87 dX8_calls_82 (by decide) (fun h82 => ?_) (fun h82 => ?_)
      ·
        refine v_aload_n X 0 dX8_calls_87 rfl rfl ?_
        refine v_aload_n X 0 dX8_calls_88 rfl rfl ?_
        refine v_getI (i := iMO) (k := 23) X (lt_MO ) (sh_MO ) rfl in_MO (by decide) wf_MO_80 rfl (fun _ => rfl) dX8_calls_89 ?_
        refine v_aload_n X 0 dX8_calls_92 rfl rfl ?_
        refine v_getR (j := i_measure) (i := iMO) (k := 11) X (lt_MO ) (sh_MO ) rfl in_MO (by decide) wf_MO_43 rfl (fun _ => rfl) dX8_calls_93 ?_
        refine v_iload_n X 1 dX8_calls_96 rfl rfl ?_
        have hv97 : vp_in xa 4 := hq
        refine v_iald (i := i_measure) (t0 := 0) X (lt_m_measure ) (sh_m_measure ) rfl hv97 dX8_calls_97 ?_
        refine v_callV_CI (rest := []) X [.int (σ iMO 23), .int (σ i_measure (xa).toNatClampNeg)] (c_MO_mix (σ iMO 23) (σ i_measure (xa).toNatClampNeg) σ ) mf_MO_mix wi_MO_mix wl_MO_mix (lt_MO ) (sh_MO ) rfl wm_MO_128 rfl ⟨by decide, by decide⟩ (Nat.le_of_ble_eq_true rfl) ⟨by decide, by decide⟩ dX8_calls_98 ?_
        refine v_istore (lv' := [(5, .int (f_MO_mix (σ iMO 23) (σ i_measure (xa).toNatClampNeg))), (0, .ref (rh iMO)), (1, .int xa), (2, .int (σ i_register (((xa * 16) + 15)).toNatClampNeg)), (3, .int (σ i_register (((xa * 16) + 10)).toNatClampNeg)), (4, .int (σ i_register (((xa * 16) + 11)).toNatClampNeg))]) X dX8_calls_101 (by decide) rfl ?_
        refine v_iload_n X 3 dX8_calls_103 rfl rfl ?_
        refine v_if_ne X 115 dX8_calls_104 (by decide) (fun h104 => ?_) (fun h104 => ?_)
        ·
          refine v_iload_n X 3 dX8_calls_115 rfl rfl ?_
          refine v_iconst (v := 1) X dX8_calls_116 (by decide) ?_
          refine v_icmp_ne X 174 dX8_calls_117 (by decide) (fun h117 => ?_) (fun h117 => ?_)
          · exact absurd h69 h117
          ·
            refine v_aload_n X 1 dX8_calls_120 rfl rfl ?_
            refine v_iload_n X 2 dX8_calls_121 rfl rfl ?_
            refine v_bipush (v := 10) X dX8_calls_122 (by decide) ?_
            refine v_aload_n X 1 dX8_calls_124 rfl rfl ?_
            refine v_getR (j := i_full) (i := iMO) (k := 13) X (lt_MO ) (sh_MO ) rfl in_MO (by decide) wf_MO_50 rfl (fun _ => rfl) dX8_calls_125 ?_
            refine v_iload_n X 4 dX8_calls_128 rfl rfl ?_
            have hv129 : vp_in (σ i_register (((xa * 16) + 10)).toNatClampNeg) 4 := (hx (by rw [h117]; decide))
            refine v_zald (i := i_full) (t0 := 5) X (lt_m_full ) (sh_m_full ) rfl hv129 dX8_calls_129 ?_
            refine v_suff (pc2 := 168) (lv2 := [(5, .int (f_MO_mix (σ iMO 23) (σ i_measure (xa).toNatClampNeg))), (0, .ref (rh iMO)), (1, .int xa), (2, .int (σ i_register (((xa * 16) + 15)).toNatClampNeg)), (3, .int (σ i_register (((xa * 16) + 10)).toNatClampNeg)), (4, .int (σ i_register (((xa * 16) + 11)).toNatClampNeg))]) (st2 := [.int ((if (σ i_full ((σ i_register (((xa * 16) + 10)).toNatClampNeg)).toNatClampNeg) = 0 then (-1) else (if ((σ iMO 29) - (σ i_hour ((σ i_register (((xa * 16) + 10)).toNatClampNeg)).toNatClampNeg)) ≤ (σ i_period ((σ i_register (((xa * 16) + 10)).toNatClampNeg)).toNatClampNeg) then ((σ iMO 29) - (σ i_hour ((σ i_register (((xa * 16) + 10)).toNatClampNeg)).toNatClampNeg)) else (-1))) : Int32), .int 10, .int xa, .ref (rh iMO)]) (σ2 := σ) ?_ (fun J130 => ?_)
            rotate_left
            ·
              refine v_if_eq X 153 dX8_calls_130 (by decide) (fun h130 => ?_) (fun h130 => ?_)
              ·
                refine v_iconst (v := (-1)) X dX8_calls_153 (by decide) ?_
                refine v_goto (tgt := 168) X dX8_calls_154 (by decide) ?_
                have e9 : (((if (σ i_full ((σ i_register (((xa * 16) + 10)).toNatClampNeg)).toNatClampNeg) = 0 then (-1) else (if ((σ iMO 29) - (σ i_hour ((σ i_register (((xa * 16) + 10)).toNatClampNeg)).toNatClampNeg)) ≤ (σ i_period ((σ i_register (((xa * 16) + 10)).toNatClampNeg)).toNatClampNeg) then ((σ iMO 29) - (σ i_hour ((σ i_register (((xa * 16) + 10)).toNatClampNeg)).toNatClampNeg)) else (-1))) : Int32) : Int32) = (-1) := by simp only [if_pos h130]
                rw [e9] at J130
                exact J130
              ·
                refine v_aload_n X 1 dX8_calls_133 rfl rfl ?_
                refine v_getI (i := iMO) (k := 29) X (lt_MO ) (sh_MO ) rfl in_MO (by decide) wf_MO_109 rfl (fun _ => rfl) dX8_calls_134 ?_
                refine v_aload_n X 1 dX8_calls_137 rfl rfl ?_
                refine v_getR (j := i_hour) (i := iMO) (k := 20) X (lt_MO ) (sh_MO ) rfl in_MO (by decide) wf_MO_71 rfl (fun _ => rfl) dX8_calls_138 ?_
                refine v_iload_n X 4 dX8_calls_141 rfl rfl ?_
                have hv142 : vp_in (σ i_register (((xa * 16) + 10)).toNatClampNeg) 4 := (hx (by rw [h117]; decide))
                refine v_iald (i := i_hour) (t0 := 0) X (lt_m_hour ) (sh_m_hour ) rfl hv142 dX8_calls_142 ?_
                refine v_isub X dX8_calls_143 ?_
                refine v_aload_n X 1 dX8_calls_144 rfl rfl ?_
                refine v_getR (j := i_period) (i := iMO) (k := 18) X (lt_MO ) (sh_MO ) rfl in_MO (by decide) wf_MO_65 rfl (fun _ => rfl) dX8_calls_145 ?_
                refine v_iload_n X 4 dX8_calls_148 rfl rfl ?_
                have hv149 : vp_in (σ i_register (((xa * 16) + 10)).toNatClampNeg) 4 := (hx (by rw [h117]; decide))
                refine v_iald (i := i_period) (t0 := 0) X (lt_m_period ) (sh_m_period ) rfl hv149 dX8_calls_149 ?_
                refine v_icmp_le X 157 dX8_calls_150 (by decide) (fun h150 => ?_) (fun h150 => ?_)
                ·
                  refine v_aload_n X 1 dX8_calls_157 rfl rfl ?_
                  refine v_getI (i := iMO) (k := 29) X (lt_MO ) (sh_MO ) rfl in_MO (by decide) wf_MO_109 rfl (fun _ => rfl) dX8_calls_158 ?_
                  refine v_aload_n X 1 dX8_calls_161 rfl rfl ?_
                  refine v_getR (j := i_hour) (i := iMO) (k := 20) X (lt_MO ) (sh_MO ) rfl in_MO (by decide) wf_MO_71 rfl (fun _ => rfl) dX8_calls_162 ?_
                  refine v_iload_n X 4 dX8_calls_165 rfl rfl ?_
                  have hv166 : vp_in (σ i_register (((xa * 16) + 10)).toNatClampNeg) 4 := (hx (by rw [h117]; decide))
                  refine v_iald (i := i_hour) (t0 := 0) X (lt_m_hour ) (sh_m_hour ) rfl hv166 dX8_calls_166 ?_
                  refine v_isub X dX8_calls_167 ?_
                  have e9 : (((if (σ i_full ((σ i_register (((xa * 16) + 10)).toNatClampNeg)).toNatClampNeg) = 0 then (-1) else (if ((σ iMO 29) - (σ i_hour ((σ i_register (((xa * 16) + 10)).toNatClampNeg)).toNatClampNeg)) ≤ (σ i_period ((σ i_register (((xa * 16) + 10)).toNatClampNeg)).toNatClampNeg) then ((σ iMO 29) - (σ i_hour ((σ i_register (((xa * 16) + 10)).toNatClampNeg)).toNatClampNeg)) else (-1))) : Int32) : Int32) = ((σ iMO 29) - (σ i_hour ((σ i_register (((xa * 16) + 10)).toNatClampNeg)).toNatClampNeg)) := by simp only [if_neg h130, if_pos h150]
                  rw [e9] at J130
                  exact J130
                ·
                  refine v_iconst (v := (-1)) X dX8_calls_153 (by decide) ?_
                  refine v_goto (tgt := 168) X dX8_calls_154 (by decide) ?_
                  have e9 : (((if (σ i_full ((σ i_register (((xa * 16) + 10)).toNatClampNeg)).toNatClampNeg) = 0 then (-1) else (if ((σ iMO 29) - (σ i_hour ((σ i_register (((xa * 16) + 10)).toNatClampNeg)).toNatClampNeg)) ≤ (σ i_period ((σ i_register (((xa * 16) + 10)).toNatClampNeg)).toNatClampNeg) then ((σ iMO 29) - (σ i_hour ((σ i_register (((xa * 16) + 10)).toNatClampNeg)).toNatClampNeg)) else (-1))) : Int32) : Int32) = (-1) := by simp only [if_neg h130, if_neg h150]
                  rw [e9] at J130
                  exact J130
            refine v_callV_CV (rest := []) X [.int xa, .int 10, .int ((if (σ i_full ((σ i_register (((xa * 16) + 10)).toNatClampNeg)).toNatClampNeg) = 0 then (-1) else (if ((σ iMO 29) - (σ i_hour ((σ i_register (((xa * 16) + 10)).toNatClampNeg)).toNatClampNeg)) ≤ (σ i_period ((σ i_register (((xa * 16) + 10)).toNatClampNeg)).toNatClampNeg) then ((σ iMO 29) - (σ i_hour ((σ i_register (((xa * 16) + 10)).toNatClampNeg)).toNatClampNeg)) else (-1))) : Int32)] (c_MO_put xa 10 ((if (σ i_full ((σ i_register (((xa * 16) + 10)).toNatClampNeg)).toNatClampNeg) = 0 then (-1) else (if ((σ iMO 29) - (σ i_hour ((σ i_register (((xa * 16) + 10)).toNatClampNeg)).toNatClampNeg)) ≤ (σ i_period ((σ i_register (((xa * 16) + 10)).toNatClampNeg)).toNatClampNeg) then ((σ iMO 29) - (σ i_hour ((σ i_register (((xa * 16) + 10)).toNatClampNeg)).toNatClampNeg)) else (-1))) : Int32) σ (by assumption) (vin_mk (by decide) (by decide))) mf_MO_put wi_MO_put wl_MO_put (lt_MO ) (sh_MO ) rfl wm_MO_143 rfl ⟨by decide, by decide⟩ (Nat.le_of_ble_eq_true rfl) ⟨by decide, by decide⟩ dX8_calls_168 ?_
            generalize hg168 : (f_MO_put xa 10 ((if (σ i_full ((σ i_register (((xa * 16) + 10)).toNatClampNeg)).toNatClampNeg) = 0 then (-1) else (if ((σ iMO 29) - (σ i_hour ((σ i_register (((xa * 16) + 10)).toNatClampNeg)).toNatClampNeg)) ≤ (σ i_period ((σ i_register (((xa * 16) + 10)).toNatClampNeg)).toNatClampNeg) then ((σ iMO 29) - (σ i_hour ((σ i_register (((xa * 16) + 10)).toNatClampNeg)).toNatClampNeg)) else (-1))) : Int32) σ) = g168
            have hI168 : Im g168 := by rw [← hg168]; exact (I_MO_put xa 10 ((if (σ i_full ((σ i_register (((xa * 16) + 10)).toNatClampNeg)).toNatClampNeg) = 0 then (-1) else (if ((σ iMO 29) - (σ i_hour ((σ i_register (((xa * 16) + 10)).toNatClampNeg)).toNatClampNeg)) ≤ (σ i_period ((σ i_register (((xa * 16) + 10)).toNatClampNeg)).toNatClampNeg) then ((σ iMO 29) - (σ i_hour ((σ i_register (((xa * 16) + 10)).toNatClampNeg)).toNatClampNeg)) else (-1))) : Int32) hI (by assumption) (vin_mk (by decide) (by decide)))
            refine v_goto (tgt := 318) X dX8_calls_171 (by decide) ?_
            refine v_iconst (v := 0) X dX8_calls_318 (by decide) ?_
            have e9 : lp_MO_calls_67 xa (k9 + 1)  σ = (0, g168) := by subst hg168; simp only [lp_MO_calls_67, if_pos h69, if_neg h82, if_neg h104]
            exact v_endI hend dX8_calls_319 (by rw [e9]) (by rw [e9])
        ·
          refine v_aload_n X 1 dX8_calls_107 rfl rfl ?_
          refine v_iconst (v := 1) X dX8_calls_108 (by decide) ?_
          refine v_put (i := iMO) (k := 25) (x := 1) (ty := .boolean) X (lt_MO ) (sh_MO ) rfl in_MO (by decide) tyX8 tyX8_ok nX8 wf_MO_118 rfl rfl rfl (zN (Or.inr rfl)) (zF (Or.inr rfl)) (fun _ => Nat.le_of_ble_eq_true rfl) (fun _ _ => rfl) dX8_calls_109 ?_
          generalize hg109 : (up σ iMO 25 1) = g109
          have hI109 : Im g109 := by rw [← hg109]; exact (Im.upMO hI (by decide))
          refine v_goto (tgt := 318) X dX8_calls_112 (by decide) ?_
          refine v_iconst (v := 0) X dX8_calls_318 (by decide) ?_
          have e9 : lp_MO_calls_67 xa (k9 + 1)  σ = (0, g109) := by subst hg109; simp only [lp_MO_calls_67, if_pos h69, if_neg h82, if_pos h104]
          exact v_endI hend dX8_calls_319 (by rw [e9]) (by rw [e9])
      ·
        refine v_iconst (v := 3) X dX8_calls_85 (by decide) ?_
        have e9 : lp_MO_calls_67 xa (k9 + 1)  σ = (3, σ) := by simp only [lp_MO_calls_67, if_pos h69, if_pos h82]
        exact v_endI hend dX8_calls_86 (by rw [e9]) (by rw [e9])
def f_MO_calls (xa : Int32) (σ : St) : Int32 × St :=
  (if (σ i_register (((xa * 16) + 15)).toNatClampNeg) < 0 then (3, σ) else (if 4 < (σ i_register (((xa * 16) + 15)).toNatClampNeg) then (3, σ) else (if (σ i_register (((xa * 16) + 15)).toNatClampNeg) ≤ 0 then (lp_MO_calls_67 xa 1  σ) else (if 4 ≤ (σ i_register (((xa * 16) + 15)).toNatClampNeg) then (lp_MO_calls_67 xa 1  σ) else (if (f_MO_no (σ i_register (((xa * 16) + 10)).toNatClampNeg) 3) = 0 then (lp_MO_calls_67 xa 1  σ) else (3, σ))))))
set_option maxHeartbeats 4000000 in
set_option maxRecDepth 100000 in
theorem c_MO_calls (xa : Int32) (σ : St) (hI : Im σ) (hq : vp_in xa 4) : CI l D (tyL cA) rh (rcW rh cA) NW yX8_calls cX8_calls 8 .int 1 [.ref (rh iMO), .int xa] σ (f_MO_calls xa σ).1 (f_MO_calls xa σ).2 := by
  refine CI.of rfl (Nat.le_of_ble_eq_true rfl) rfl ?_
  intro p9 e s m args below meth c A Q X hend
  refine v_lv (lv' := [(0, .ref (rh iMO)), (1, .int xa)]) [0, 1] rfl ?_
  refine v_aload_n X 0 dX8_calls_0 rfl rfl ?_
  refine v_getR (j := i_register) (i := iMO) (k := 2) X (lt_MO ) (sh_MO ) rfl in_MO (by decide) wf_MO_16 rfl (fun _ => rfl) dX8_calls_1 ?_
  refine v_iload_n X 1 dX8_calls_4 rfl rfl ?_
  refine v_bipush (v := 16) X dX8_calls_5 (by decide) ?_
  refine v_imul X dX8_calls_7 ?_
  refine v_bipush (v := 15) X dX8_calls_8 (by decide) ?_
  refine v_iadd X dX8_calls_10 ?_
  have hv11 : vp_in ((xa * 16) + 15) 64 := (vreg hq (vin_mk (by decide) (by decide)))
  refine v_iald (i := i_register) (t0 := 0) X (lt_m_register ) (sh_m_register ) rfl hv11 dX8_calls_11 ?_
  refine v_istore_n (lv' := [(2, .int (σ i_register (((xa * 16) + 15)).toNatClampNeg)), (0, .ref (rh iMO)), (1, .int xa)]) X dX8_calls_12 rfl (by decide) rfl ?_
  refine v_aload_n X 1 dX8_calls_13 rfl rfl ?_
  refine v_getR (j := i_register) (i := iMO) (k := 2) X (lt_MO ) (sh_MO ) rfl in_MO (by decide) wf_MO_16 rfl (fun _ => rfl) dX8_calls_14 ?_
  refine v_iload_n X 2 dX8_calls_17 rfl rfl ?_
  refine v_bipush (v := 16) X dX8_calls_18 (by decide) ?_
  refine v_imul X dX8_calls_20 ?_
  refine v_bipush (v := 10) X dX8_calls_21 (by decide) ?_
  refine v_iadd X dX8_calls_23 ?_
  have hv24 : vp_in ((xa * 16) + 10) 64 := (vreg hq (vin_mk (by decide) (by decide)))
  refine v_iald (i := i_register) (t0 := 0) X (lt_m_register ) (sh_m_register ) rfl hv24 dX8_calls_24 ?_
  refine v_istore_n (lv' := [(3, .int (σ i_register (((xa * 16) + 10)).toNatClampNeg)), (2, .int (σ i_register (((xa * 16) + 15)).toNatClampNeg)), (0, .ref (rh iMO)), (1, .int xa)]) X dX8_calls_25 rfl (by decide) rfl ?_
  refine v_aload_n X 2 dX8_calls_26 rfl rfl ?_
  refine v_getR (j := i_register) (i := iMO) (k := 2) X (lt_MO ) (sh_MO ) rfl in_MO (by decide) wf_MO_16 rfl (fun _ => rfl) dX8_calls_27 ?_
  refine v_iload_n X 3 dX8_calls_30 rfl rfl ?_
  refine v_bipush (v := 16) X dX8_calls_31 (by decide) ?_
  refine v_imul X dX8_calls_33 ?_
  refine v_bipush (v := 11) X dX8_calls_34 (by decide) ?_
  refine v_iadd X dX8_calls_36 ?_
  have hv37 : vp_in ((xa * 16) + 11) 64 := (vreg hq (vin_mk (by decide) (by decide)))
  refine v_iald (i := i_register) (t0 := 0) X (lt_m_register ) (sh_m_register ) rfl hv37 dX8_calls_37 ?_
  refine v_istore (lv' := [(4, .int (σ i_register (((xa * 16) + 11)).toNatClampNeg)), (3, .int (σ i_register (((xa * 16) + 10)).toNatClampNeg)), (2, .int (σ i_register (((xa * 16) + 15)).toNatClampNeg)), (0, .ref (rh iMO)), (1, .int xa)]) X dX8_calls_38 (by decide) rfl ?_
  refine v_iload_n X 2 dX8_calls_40 rfl rfl ?_
  refine v_if_lt X 85 dX8_calls_41 (by decide) (fun h41 => ?_) (fun h41 => ?_)
  ·
    refine v_iconst (v := 3) X dX8_calls_85 (by decide) ?_
    have e9 : f_MO_calls xa σ = (3, σ) := by simp only [f_MO_calls, if_pos h41]
    exact v_endI hend dX8_calls_86 (by rw [e9]) (by rw [e9])
  ·
    refine v_iload_n X 2 dX8_calls_44 rfl rfl ?_
    refine v_iconst (v := 4) X dX8_calls_45 (by decide) ?_
    refine v_icmp_gt X 85 dX8_calls_46 (by decide) (fun h46 => ?_) (fun h46 => ?_)
    ·
      refine v_iconst (v := 3) X dX8_calls_85 (by decide) ?_
      have e9 : f_MO_calls xa σ = (3, σ) := by simp only [f_MO_calls, if_neg h41, if_pos h46]
      exact v_endI hend dX8_calls_86 (by rw [e9]) (by rw [e9])
    ·
      refine v_iload_n X 2 dX8_calls_49 rfl rfl ?_
      refine v_if_le X 67 dX8_calls_50 (by decide) (fun h50 => ?_) (fun h50 => ?_)
      ·
        have e9 : f_MO_calls xa σ = lp_MO_calls_67 xa 1  σ := by simp only [f_MO_calls, if_neg h41, if_neg h46, if_pos h50]
        rw [e9] at hend
        refine v_lv (lv' := [(0, .ref (rh iMO)), (1, .int xa), (2, .int (σ i_register (((xa * 16) + 15)).toNatClampNeg)), (3, .int (σ i_register (((xa * 16) + 10)).toNatClampNeg)), (4, .int (σ i_register (((xa * 16) + 11)).toNatClampNeg))]) [3, 4, 2, 1, 0] rfl ?_
        exact lc_MO_calls_67 xa hq X 1  σ hI (fun h => absurd h50 h.1) (by decide) hend
      ·
        refine v_iload_n X 2 dX8_calls_53 rfl rfl ?_
        refine v_iconst (v := 4) X dX8_calls_54 (by decide) ?_
        refine v_icmp_ge X 67 dX8_calls_55 (by decide) (fun h55 => ?_) (fun h55 => ?_)
        ·
          have e9 : f_MO_calls xa σ = lp_MO_calls_67 xa 1  σ := by simp only [f_MO_calls, if_neg h41, if_neg h46, if_neg h50, if_pos h55]
          rw [e9] at hend
          refine v_lv (lv' := [(0, .ref (rh iMO)), (1, .int xa), (2, .int (σ i_register (((xa * 16) + 15)).toNatClampNeg)), (3, .int (σ i_register (((xa * 16) + 10)).toNatClampNeg)), (4, .int (σ i_register (((xa * 16) + 11)).toNatClampNeg))]) [3, 4, 2, 1, 0] rfl ?_
          exact lc_MO_calls_67 xa hq X 1  σ hI (fun h => absurd h55 h.2) (by decide) hend
        ·
          refine v_aload_n X 3 dX8_calls_58 rfl rfl ?_
          refine v_iload_n X 1 dX8_calls_59 rfl rfl ?_
          refine v_iconst (v := 3) X dX8_calls_60 (by decide) ?_
          refine v_callV_CI (rest := []) X [.int (σ i_register (((xa * 16) + 10)).toNatClampNeg), .int 3] (c_MO_no (σ i_register (((xa * 16) + 10)).toNatClampNeg) 3 σ ) mf_MO_no wi_MO_no wl_MO_no (lt_MO ) (sh_MO ) rfl wm_MO_92 rfl ⟨by decide, by decide⟩ (Nat.le_of_ble_eq_true rfl) ⟨by decide, by decide⟩ dX8_calls_61 ?_
          refine v_if_ne X 85 dX8_calls_64 (by decide) (fun h64 => ?_) (fun h64 => ?_)
          ·
            refine v_iconst (v := 3) X dX8_calls_85 (by decide) ?_
            have e9 : f_MO_calls xa σ = (3, σ) := by simp only [f_MO_calls, if_neg h41, if_neg h46, if_neg h50, if_neg h55, if_neg h64]
            exact v_endI hend dX8_calls_86 (by rw [e9]) (by rw [e9])
          ·
            have e9 : f_MO_calls xa σ = lp_MO_calls_67 xa 1  σ := by simp only [f_MO_calls, if_neg h41, if_neg h46, if_neg h50, if_neg h55, if_pos h64]
            rw [e9] at hend
            refine v_lv (lv' := [(0, .ref (rh iMO)), (1, .int xa), (2, .int (σ i_register (((xa * 16) + 15)).toNatClampNeg)), (3, .int (σ i_register (((xa * 16) + 10)).toNatClampNeg)), (4, .int (σ i_register (((xa * 16) + 11)).toNatClampNeg))]) [3, 4, 2, 1, 0] rfl ?_
            exact lc_MO_calls_67 xa hq X 1  σ hI (fun _ => no3 h64) (by decide) hend
theorem Il_MO_calls_67 (xa : Int32) (hq : vp_in xa 4) : ∀ (k9 : Nat) (σ : St), Im σ → Im (lp_MO_calls_67 xa k9  σ).2 := by
  intro k9
  induction k9 with
  | zero => intro  σ hI; exact hI
  | succ k9 ih =>
    intro  σ hI
    simp only [lp_MO_calls_67]
    exact (im_ite2 (fun _ => (im_ite2 (fun _ => hI) (fun _ => (im_ite2 (fun _ => (Im.upMO hI (by decide))) (fun _ => (I_MO_put xa 10 ((if (σ i_full ((σ i_register (((xa * 16) + 10)).toNatClampNeg)).toNatClampNeg) = 0 then (-1) else (if ((σ iMO 29) - (σ i_hour ((σ i_register (((xa * 16) + 10)).toNatClampNeg)).toNatClampNeg)) ≤ (σ i_period ((σ i_register (((xa * 16) + 10)).toNatClampNeg)).toNatClampNeg) then ((σ iMO 29) - (σ i_hour ((σ i_register (((xa * 16) + 10)).toNatClampNeg)).toNatClampNeg)) else (-1))) : Int32) hI (by assumption) (vin_mk (by decide) (by decide)))))))) (fun _ => (im_ite2 (fun _ => (Im.upMO hI (by decide))) (fun _ => (im_ite2 (fun _ => (Im.upA (Im.upA hI (by decide)) (by decide))) (fun _ => (im_ite2 (fun _ => (im_ite2 (fun _ => (I_MO_put xa 10 ((if ((if (σ i_seal ((σ i_register (((xa * 16) + 10)).toNatClampNeg)).toNatClampNeg) = (f_MO_mix (f_MO_mix (σ iMO 23) ((σ i_holds ((σ i_register (((xa * 16) + 10)).toNatClampNeg)).toNatClampNeg) ^^^ (f_MO_mix (σ iMO 23) (σ i_measure (xa).toNatClampNeg)))) (σ i_measure (xa).toNatClampNeg)) then 1 else 0) : Int32) = 0 then 0 else 1) : Int32) hI (by assumption) (vin_mk (by decide) (by decide)))) (fun _ => (I_MO_put xa 11 ((σ i_holds ((σ i_register (((xa * 16) + 10)).toNatClampNeg)).toNatClampNeg) ^^^ (f_MO_mix (σ iMO 23) (σ i_measure (xa).toNatClampNeg))) (I_MO_put xa 10 ((if ((if (σ i_seal ((σ i_register (((xa * 16) + 10)).toNatClampNeg)).toNatClampNeg) = (f_MO_mix (f_MO_mix (σ iMO 23) ((σ i_holds ((σ i_register (((xa * 16) + 10)).toNatClampNeg)).toNatClampNeg) ^^^ (f_MO_mix (σ iMO 23) (σ i_measure (xa).toNatClampNeg)))) (σ i_measure (xa).toNatClampNeg)) then 1 else 0) : Int32) = 0 then 0 else 1) : Int32) hI (by assumption) (vin_mk (by decide) (by decide))) (by assumption) (vin_mk (by decide) (by decide)))))) (fun _ => (I_MO_put xa 10 (σ i_measure (xa).toNatClampNeg) hI (by assumption) (vin_mk (by decide) (by decide)))))))))))
theorem I_MO_calls (xa : Int32) {σ : St} (hI : Im σ) (hq : vp_in xa 4) : Im (f_MO_calls xa σ).2 := by
  unfold f_MO_calls
  exact (im_ite2 (fun _ => hI) (fun _ => (im_ite2 (fun _ => hI) (fun _ => (im_ite2 (fun _ => (Il_MO_calls_67 xa hq _  _ hI)) (fun _ => (im_ite2 (fun _ => (Il_MO_calls_67 xa hq _  _ hI)) (fun _ => (im_ite2 (fun _ => (Il_MO_calls_67 xa hq _  _ hI)) (fun _ => hI))))))))))
end CLS
