/-! the reference's boot -/
theorem Im.booted {σ : St} {v : Int32} (h : Im σ) (hw : 1 ≤ (σ iMO 26).toInt) : Im (up σ iMO 24 v) := by
  obtain ⟨h1, h2, h3, h4, h5⟩ := h
  have e1 : up σ iMO 24 v i_from = σ i_from := up_row (by decide)
  have e2 : up σ iMO 24 v i_size = σ i_size := up_row (by decide)
  have e3 : up σ iMO 24 v i_owner = σ i_owner := up_row (by decide)
  have e4 : up σ iMO 24 v iMO 26 = σ iMO 26 := up_slot (by decide)
  have e5 : up σ iMO 24 v iMO 27 = σ iMO 27 := up_slot (by decide)
  unfold Im
  rw [e1, e2, e3, e4, e5]
  exact ⟨h1, h2, h3, h4, fun _ => hw⟩
theorem boot_w {σ : St} (hI : Im σ) (h : up σ iMO 33 ((if (σ iMO 24) = 0 then (if (σ iMO 26) = 0 then 1 else 0) else 1) : Int32) iMO 33 = 0) : 1 ≤ (up σ iMO 33 ((if (σ iMO 24) = 0 then (if (σ iMO 26) = 0 then 1 else 0) else 1) : Int32) iMO 26).toInt := by
  have h1 := up33 h
  rw [up_slot (by decide)]
  by_cases hb : σ iMO 24 = 0
  · rw [if_pos hb] at h1
    by_cases hw : σ iMO 26 = 0
    · rw [if_pos hw] at h1; exact absurd h1 (by decide)
    · have h2 := hI.2.1.1
      have h3 : (σ iMO 26).toInt ≠ 0 := fun e => hw (Int32.toInt_inj.mp (by rw [e]; decide))
      omega
  · rw [if_neg hb] at h1; exact absurd h1 (by decide)

section CLS
variable {l : Launch} {D : va_G} {rh : Nat → Nat} {cA : Nat → ClassId}
def lp_MO_boot_184  : Nat → Int32 → Int32 → Int32 → St → Int32 × St
  | 0, _, _, _, σ => (0, σ)
  | k9 + 1, i1, m2, i3, σ => (if (σ i_size (i1).toNatClampNeg) ≤ i3 then (m2, σ) else (lp_MO_boot_184  k9 i1 (f_MO_mix m2 (σ i_memory (((σ i_from (i1).toNatClampNeg) + i3)).toNatClampNeg)) (i3 + 1) (up σ i_image (((i1 * 32) + i3)).toNatClampNeg (σ i_memory (((σ i_from (i1).toNatClampNeg) + i3)).toNatClampNeg))))
set_option maxHeartbeats 4000000 in
set_option maxRecDepth 100000 in
theorem lc_MO_boot_184  {p9 : Program} {e : Env} {s : State} {m : MethodId} {args : Array Value} {below : List Frame} {meth : Method} {c : Code} {A : Nat → Prop} {Q : State → Prop} (X : Cx p9 s m args meth c D (tyL cA) A cX8_boot 4 yX8_boot.cls) : ∀ (k9 : Nat) (i1 : Int32) (m2 : Int32) (i3 : Int32) (σ : St), (hI : Im σ) → (hq : vp_in i1 4) → (hi : 0 ≤ i3.toInt ∧ i3.toInt ≤ (σ i_size i1.toNatClampNeg).toInt) → ((σ i_size i1.toNatClampNeg).toInt - i3.toInt < (k9 : Int)) → Vz p9 l e (Rz 1) s m args below meth c D A 4 rh (rcW rh cA) NW 0 0 Q 243 [(0, .ref (rh iMO)), (1, .int i1), (2, .int (lp_MO_boot_184  k9 i1 m2 i3 σ).1)] [] (lp_MO_boot_184  k9 i1 m2 i3 σ).2 → Vz p9 l e (Rz 1) s m args below meth c D A 4 rh (rcW rh cA) NW 0 0 Q 184 [(0, .ref (rh iMO)), (1, .int i1), (2, .int m2), (3, .int i3)] [] σ := by
  intro k9
  induction k9 with
  | zero =>
    intro i1 m2 i3 σ hI hq hi hmu hend
    exact absurd hmu (by omega)
  | succ k9 ih =>
    intro i1 m2 i3 σ hI hq hi hmu hend
    refine v_iload_n X 3 dX8_boot_184 rfl rfl ?_
    refine v_aload_n X 0 dX8_boot_185 rfl rfl ?_
    refine v_getR (j := i_size) (i := iMO) (k := 4) X (lt_MO ) (sh_MO ) rfl in_MO (by decide) wf_MO_22 rfl (fun _ => rfl) dX8_boot_186 ?_
    refine v_iload_n X 1 dX8_boot_189 rfl rfl ?_
    have hv190 : vp_in i1 4 := hq
    refine v_iald (i := i_size) (t0 := 0) X (lt_m_size ) (sh_m_size ) rfl hv190 dX8_boot_190 ?_
    refine v_icmp_ge X 243 dX8_boot_191 (by decide) (fun h191 => ?_) (fun h191 => ?_)
    ·
      have e9 : lp_MO_boot_184  (k9 + 1) i1 m2 i3 σ = (m2, σ) := by simp only [lp_MO_boot_184, if_pos h191]
      rw [e9] at hend
      exact v_lv (lv' := [(0, .ref (rh iMO)), (1, .int i1), (2, .int m2)]) [0, 1, 2] rfl hend
    ·
      refine v_aload_n X 0 dX8_boot_194 rfl rfl ?_
      refine v_iload_n X 2 dX8_boot_195 rfl rfl ?_
      refine v_aload_n X 0 dX8_boot_196 rfl rfl ?_
      refine v_getR (j := i_memory) (i := iMO) (k := 0) X (lt_MO ) (sh_MO ) rfl in_MO (by decide) wf_MO_7 rfl (fun _ => rfl) dX8_boot_197 ?_
      refine v_aload_n X 0 dX8_boot_200 rfl rfl ?_
      refine v_getR (j := i_from) (i := iMO) (k := 3) X (lt_MO ) (sh_MO ) rfl in_MO (by decide) wf_MO_19 rfl (fun _ => rfl) dX8_boot_201 ?_
      refine v_iload_n X 1 dX8_boot_204 rfl rfl ?_
      have hv205 : vp_in i1 4 := hq
      refine v_iald (i := i_from) (t0 := 0) X (lt_m_from ) (sh_m_from ) rfl hv205 dX8_boot_205 ?_
      refine v_iload_n X 3 dX8_boot_206 rfl rfl ?_
      refine v_iadd X dX8_boot_207 ?_
      have hv208 : vp_in ((σ i_from (i1).toNatClampNeg) + i3) 96 := (fi_in hI hq hi.1 h191)
      refine v_iald (i := i_memory) (t0 := 0) X (lt_m_memory ) (sh_m_memory ) rfl hv208 dX8_boot_208 ?_
      refine v_callV_CI (rest := []) X [.int m2, .int (σ i_memory (((σ i_from (i1).toNatClampNeg) + i3)).toNatClampNeg)] (c_MO_mix m2 (σ i_memory (((σ i_from (i1).toNatClampNeg) + i3)).toNatClampNeg) σ ) mf_MO_mix wi_MO_mix wl_MO_mix (lt_MO ) (sh_MO ) rfl wm_MO_128 rfl ⟨by decide, by decide⟩ (Nat.le_of_ble_eq_true rfl) ⟨by decide, by decide⟩ dX8_boot_209 ?_
      refine v_istore_n (lv' := [(2, .int (f_MO_mix m2 (σ i_memory (((σ i_from (i1).toNatClampNeg) + i3)).toNatClampNeg))), (0, .ref (rh iMO)), (1, .int i1), (3, .int i3)]) X dX8_boot_212 rfl (by decide) rfl ?_
      refine v_aload_n X 1 dX8_boot_213 rfl rfl ?_
      refine v_getR (j := i_image) (i := iMO) (k := 1) X (lt_MO ) (sh_MO ) rfl in_MO (by decide) wf_MO_13 rfl (fun _ => rfl) dX8_boot_214 ?_
      refine v_iload_n X 2 dX8_boot_217 rfl rfl ?_
      refine v_bipush (v := 32) X dX8_boot_218 (by decide) ?_
      refine v_imul X dX8_boot_220 ?_
      refine v_iload_n X 3 dX8_boot_221 rfl rfl ?_
      refine v_iadd X dX8_boot_222 ?_
      refine v_aload_n X 1 dX8_boot_223 rfl rfl ?_
      refine v_getR (j := i_memory) (i := iMO) (k := 0) X (lt_MO ) (sh_MO ) rfl in_MO (by decide) wf_MO_7 rfl (fun _ => rfl) dX8_boot_224 ?_
      refine v_aload_n X 1 dX8_boot_227 rfl rfl ?_
      refine v_getR (j := i_from) (i := iMO) (k := 3) X (lt_MO ) (sh_MO ) rfl in_MO (by decide) wf_MO_19 rfl (fun _ => rfl) dX8_boot_228 ?_
      refine v_iload_n X 2 dX8_boot_231 rfl rfl ?_
      have hv232 : vp_in i1 4 := hq
      refine v_iald (i := i_from) (t0 := 0) X (lt_m_from ) (sh_m_from ) rfl hv232 dX8_boot_232 ?_
      refine v_iload_n X 3 dX8_boot_233 rfl rfl ?_
      refine v_iadd X dX8_boot_234 ?_
      have hv235 : vp_in ((σ i_from (i1).toNatClampNeg) + i3) 96 := (fi_in hI hq hi.1 h191)
      refine v_iald (i := i_memory) (t0 := 0) X (lt_m_memory ) (sh_m_memory ) rfl hv235 dX8_boot_235 ?_
      have hv236 : vp_in ((i1 * 32) + i3) 128 := (vimg hq (vin_mk hi.1 (by have u1 := (hI.1 _ (vin_lt hq)).2.2.1; have u8 := h191; rw [ile] at u8; omega)))
      refine v_iast (i := i_image) (t0 := 0) X (lt_m_image ) (sh_m_image ) rfl hv236 dX8_boot_236 ?_
      generalize hg236 : (up σ i_image (((i1 * 32) + i3)).toNatClampNeg (σ i_memory (((σ i_from (i1).toNatClampNeg) + i3)).toNatClampNeg)) = g236
      have hI236 : Im g236 := by rw [← hg236]; exact (Im.upA hI (by decide))
      refine v_iinc (v := (i3 + 1)) (lv' := [(3, .int (i3 + 1)), (2, .int (f_MO_mix m2 (σ i_memory (((σ i_from (i1).toNatClampNeg) + i3)).toNatClampNeg))), (0, .ref (rh iMO)), (1, .int i1)]) X 3 dX8_boot_237 rfl rfl (by decide) rfl ?_
      refine v_goto (tgt := 184) X dX8_boot_240 (by decide) ?_
      have e9 : lp_MO_boot_184  (k9 + 1) i1 m2 i3 σ = lp_MO_boot_184  k9 i1 (f_MO_mix m2 (σ i_memory (((σ i_from (i1).toNatClampNeg) + i3)).toNatClampNeg)) (i3 + 1) g236 := by subst hg236; simp only [lp_MO_boot_184, if_neg h191]
      rw [e9] at hend
      refine v_lv (lv' := [(0, .ref (rh iMO)), (1, .int i1), (2, .int (f_MO_mix m2 (σ i_memory (((σ i_from (i1).toNatClampNeg) + i3)).toNatClampNeg))), (3, .int (i3 + 1))]) [2, 3, 1, 0] rfl ?_
      exact ih i1 (f_MO_mix m2 (σ i_memory (((σ i_from (i1).toNatClampNeg) + i3)).toNatClampNeg)) (i3 + 1) g236 hI236 hq ⟨by have u9 := i_succ h191; omega, by subst hg236; have u9 := i_succ h191; have u8 := h191; rw [ile] at u8; exact (show (i3 + 1).toInt ≤ (σ i_size i1.toNatClampNeg).toInt by omega)⟩ (by subst hg236; have u9 := i_succ h191; exact (show (σ i_size i1.toNatClampNeg).toInt - (i3 + 1).toInt < (k9 : Int) by omega)) hend
theorem Ix_MO_boot : ∀ (k : Nat) (i1 m2 i3 : Int32) (σ : St), Im σ → Im (lp_MO_boot_184 k i1 m2 i3 σ).2 := by
  intro k
  induction k with
  | zero => intro i1 m2 i3 σ h; exact h
  | succ k ih =>
    intro i1 m2 i3 σ h
    simp only [lp_MO_boot_184]
    exact im_ite2 (fun _ => h) (fun _ => ih _ _ _ _ (Im.upA h (by decide)))
def lp_MO_boot_84  : Nat → Int32 → St → Int32 × St
  | 0, _, σ => (0, σ)
  | k9 + 1, i1, σ => (if 4 ≤ i1 then ((σ iMO 30), σ) else (if ((f_MO_clear i1 (up (up (up (up (up (up (up σ i_full (i1).toNatClampNeg 0) i_faults (i1).toNatClampNeg 0) i_kind (i1).toNatClampNeg 0) i_restarts (i1).toNatClampNeg 0) i_begun (i1).toNatClampNeg 0) i_measure (i1).toNatClampNeg 0) i_ready (i1).toNatClampNeg ((if ((up (up (up (up (up (up σ i_full (i1).toNatClampNeg 0) i_faults (i1).toNatClampNeg 0) i_kind (i1).toNatClampNeg 0) i_restarts (i1).toNatClampNeg 0) i_begun (i1).toNatClampNeg 0) i_measure (i1).toNatClampNeg 0) i_size (i1).toNatClampNeg) ≤ 0 then 0 else 1) : Int32))) i_size (i1).toNatClampNeg) ≤ 0 then (lp_MO_boot_84  k9 (i1 + 1) (f_MO_clear i1 (up (up (up (up (up (up (up σ i_full (i1).toNatClampNeg 0) i_faults (i1).toNatClampNeg 0) i_kind (i1).toNatClampNeg 0) i_restarts (i1).toNatClampNeg 0) i_begun (i1).toNatClampNeg 0) i_measure (i1).toNatClampNeg 0) i_ready (i1).toNatClampNeg ((if ((up (up (up (up (up (up σ i_full (i1).toNatClampNeg 0) i_faults (i1).toNatClampNeg 0) i_kind (i1).toNatClampNeg 0) i_restarts (i1).toNatClampNeg 0) i_begun (i1).toNatClampNeg 0) i_measure (i1).toNatClampNeg 0) i_size (i1).toNatClampNeg) ≤ 0 then 0 else 1) : Int32)))) else (lp_MO_boot_84  k9 (i1 + 1) (up (up (lp_MO_boot_184  33 i1 (f_MO_mix ((f_MO_clear i1 (up (up (up (up (up (up (up σ i_full (i1).toNatClampNeg 0) i_faults (i1).toNatClampNeg 0) i_kind (i1).toNatClampNeg 0) i_restarts (i1).toNatClampNeg 0) i_begun (i1).toNatClampNeg 0) i_measure (i1).toNatClampNeg 0) i_ready (i1).toNatClampNeg ((if ((up (up (up (up (up (up σ i_full (i1).toNatClampNeg 0) i_faults (i1).toNatClampNeg 0) i_kind (i1).toNatClampNeg 0) i_restarts (i1).toNatClampNeg 0) i_begun (i1).toNatClampNeg 0) i_measure (i1).toNatClampNeg 0) i_size (i1).toNatClampNeg) ≤ 0 then 0 else 1) : Int32))) i_from (i1).toNatClampNeg) ((f_MO_clear i1 (up (up (up (up (up (up (up σ i_full (i1).toNatClampNeg 0) i_faults (i1).toNatClampNeg 0) i_kind (i1).toNatClampNeg 0) i_restarts (i1).toNatClampNeg 0) i_begun (i1).toNatClampNeg 0) i_measure (i1).toNatClampNeg 0) i_ready (i1).toNatClampNeg ((if ((up (up (up (up (up (up σ i_full (i1).toNatClampNeg 0) i_faults (i1).toNatClampNeg 0) i_kind (i1).toNatClampNeg 0) i_restarts (i1).toNatClampNeg 0) i_begun (i1).toNatClampNeg 0) i_measure (i1).toNatClampNeg 0) i_size (i1).toNatClampNeg) ≤ 0 then 0 else 1) : Int32))) i_size (i1).toNatClampNeg)) 0 (f_MO_clear i1 (up (up (up (up (up (up (up σ i_full (i1).toNatClampNeg 0) i_faults (i1).toNatClampNeg 0) i_kind (i1).toNatClampNeg 0) i_restarts (i1).toNatClampNeg 0) i_begun (i1).toNatClampNeg 0) i_measure (i1).toNatClampNeg 0) i_ready (i1).toNatClampNeg ((if ((up (up (up (up (up (up σ i_full (i1).toNatClampNeg 0) i_faults (i1).toNatClampNeg 0) i_kind (i1).toNatClampNeg 0) i_restarts (i1).toNatClampNeg 0) i_begun (i1).toNatClampNeg 0) i_measure (i1).toNatClampNeg 0) i_size (i1).toNatClampNeg) ≤ 0 then 0 else 1) : Int32)))).2 i_measure (i1).toNatClampNeg (lp_MO_boot_184  33 i1 (f_MO_mix ((f_MO_clear i1 (up (up (up (up (up (up (up σ i_full (i1).toNatClampNeg 0) i_faults (i1).toNatClampNeg 0) i_kind (i1).toNatClampNeg 0) i_restarts (i1).toNatClampNeg 0) i_begun (i1).toNatClampNeg 0) i_measure (i1).toNatClampNeg 0) i_ready (i1).toNatClampNeg ((if ((up (up (up (up (up (up σ i_full (i1).toNatClampNeg 0) i_faults (i1).toNatClampNeg 0) i_kind (i1).toNatClampNeg 0) i_restarts (i1).toNatClampNeg 0) i_begun (i1).toNatClampNeg 0) i_measure (i1).toNatClampNeg 0) i_size (i1).toNatClampNeg) ≤ 0 then 0 else 1) : Int32))) i_from (i1).toNatClampNeg) ((f_MO_clear i1 (up (up (up (up (up (up (up σ i_full (i1).toNatClampNeg 0) i_faults (i1).toNatClampNeg 0) i_kind (i1).toNatClampNeg 0) i_restarts (i1).toNatClampNeg 0) i_begun (i1).toNatClampNeg 0) i_measure (i1).toNatClampNeg 0) i_ready (i1).toNatClampNeg ((if ((up (up (up (up (up (up σ i_full (i1).toNatClampNeg 0) i_faults (i1).toNatClampNeg 0) i_kind (i1).toNatClampNeg 0) i_restarts (i1).toNatClampNeg 0) i_begun (i1).toNatClampNeg 0) i_measure (i1).toNatClampNeg 0) i_size (i1).toNatClampNeg) ≤ 0 then 0 else 1) : Int32))) i_size (i1).toNatClampNeg)) 0 (f_MO_clear i1 (up (up (up (up (up (up (up σ i_full (i1).toNatClampNeg 0) i_faults (i1).toNatClampNeg 0) i_kind (i1).toNatClampNeg 0) i_restarts (i1).toNatClampNeg 0) i_begun (i1).toNatClampNeg 0) i_measure (i1).toNatClampNeg 0) i_ready (i1).toNatClampNeg ((if ((up (up (up (up (up (up σ i_full (i1).toNatClampNeg 0) i_faults (i1).toNatClampNeg 0) i_kind (i1).toNatClampNeg 0) i_restarts (i1).toNatClampNeg 0) i_begun (i1).toNatClampNeg 0) i_measure (i1).toNatClampNeg 0) i_size (i1).toNatClampNeg) ≤ 0 then 0 else 1) : Int32)))).1) iMO 30 (f_MO_mix ((up (lp_MO_boot_184  33 i1 (f_MO_mix ((f_MO_clear i1 (up (up (up (up (up (up (up σ i_full (i1).toNatClampNeg 0) i_faults (i1).toNatClampNeg 0) i_kind (i1).toNatClampNeg 0) i_restarts (i1).toNatClampNeg 0) i_begun (i1).toNatClampNeg 0) i_measure (i1).toNatClampNeg 0) i_ready (i1).toNatClampNeg ((if ((up (up (up (up (up (up σ i_full (i1).toNatClampNeg 0) i_faults (i1).toNatClampNeg 0) i_kind (i1).toNatClampNeg 0) i_restarts (i1).toNatClampNeg 0) i_begun (i1).toNatClampNeg 0) i_measure (i1).toNatClampNeg 0) i_size (i1).toNatClampNeg) ≤ 0 then 0 else 1) : Int32))) i_from (i1).toNatClampNeg) ((f_MO_clear i1 (up (up (up (up (up (up (up σ i_full (i1).toNatClampNeg 0) i_faults (i1).toNatClampNeg 0) i_kind (i1).toNatClampNeg 0) i_restarts (i1).toNatClampNeg 0) i_begun (i1).toNatClampNeg 0) i_measure (i1).toNatClampNeg 0) i_ready (i1).toNatClampNeg ((if ((up (up (up (up (up (up σ i_full (i1).toNatClampNeg 0) i_faults (i1).toNatClampNeg 0) i_kind (i1).toNatClampNeg 0) i_restarts (i1).toNatClampNeg 0) i_begun (i1).toNatClampNeg 0) i_measure (i1).toNatClampNeg 0) i_size (i1).toNatClampNeg) ≤ 0 then 0 else 1) : Int32))) i_size (i1).toNatClampNeg)) 0 (f_MO_clear i1 (up (up (up (up (up (up (up σ i_full (i1).toNatClampNeg 0) i_faults (i1).toNatClampNeg 0) i_kind (i1).toNatClampNeg 0) i_restarts (i1).toNatClampNeg 0) i_begun (i1).toNatClampNeg 0) i_measure (i1).toNatClampNeg 0) i_ready (i1).toNatClampNeg ((if ((up (up (up (up (up (up σ i_full (i1).toNatClampNeg 0) i_faults (i1).toNatClampNeg 0) i_kind (i1).toNatClampNeg 0) i_restarts (i1).toNatClampNeg 0) i_begun (i1).toNatClampNeg 0) i_measure (i1).toNatClampNeg 0) i_size (i1).toNatClampNeg) ≤ 0 then 0 else 1) : Int32)))).2 i_measure (i1).toNatClampNeg (lp_MO_boot_184  33 i1 (f_MO_mix ((f_MO_clear i1 (up (up (up (up (up (up (up σ i_full (i1).toNatClampNeg 0) i_faults (i1).toNatClampNeg 0) i_kind (i1).toNatClampNeg 0) i_restarts (i1).toNatClampNeg 0) i_begun (i1).toNatClampNeg 0) i_measure (i1).toNatClampNeg 0) i_ready (i1).toNatClampNeg ((if ((up (up (up (up (up (up σ i_full (i1).toNatClampNeg 0) i_faults (i1).toNatClampNeg 0) i_kind (i1).toNatClampNeg 0) i_restarts (i1).toNatClampNeg 0) i_begun (i1).toNatClampNeg 0) i_measure (i1).toNatClampNeg 0) i_size (i1).toNatClampNeg) ≤ 0 then 0 else 1) : Int32))) i_from (i1).toNatClampNeg) ((f_MO_clear i1 (up (up (up (up (up (up (up σ i_full (i1).toNatClampNeg 0) i_faults (i1).toNatClampNeg 0) i_kind (i1).toNatClampNeg 0) i_restarts (i1).toNatClampNeg 0) i_begun (i1).toNatClampNeg 0) i_measure (i1).toNatClampNeg 0) i_ready (i1).toNatClampNeg ((if ((up (up (up (up (up (up σ i_full (i1).toNatClampNeg 0) i_faults (i1).toNatClampNeg 0) i_kind (i1).toNatClampNeg 0) i_restarts (i1).toNatClampNeg 0) i_begun (i1).toNatClampNeg 0) i_measure (i1).toNatClampNeg 0) i_size (i1).toNatClampNeg) ≤ 0 then 0 else 1) : Int32))) i_size (i1).toNatClampNeg)) 0 (f_MO_clear i1 (up (up (up (up (up (up (up σ i_full (i1).toNatClampNeg 0) i_faults (i1).toNatClampNeg 0) i_kind (i1).toNatClampNeg 0) i_restarts (i1).toNatClampNeg 0) i_begun (i1).toNatClampNeg 0) i_measure (i1).toNatClampNeg 0) i_ready (i1).toNatClampNeg ((if ((up (up (up (up (up (up σ i_full (i1).toNatClampNeg 0) i_faults (i1).toNatClampNeg 0) i_kind (i1).toNatClampNeg 0) i_restarts (i1).toNatClampNeg 0) i_begun (i1).toNatClampNeg 0) i_measure (i1).toNatClampNeg 0) i_size (i1).toNatClampNeg) ≤ 0 then 0 else 1) : Int32)))).1) iMO 30) (lp_MO_boot_184  33 i1 (f_MO_mix ((f_MO_clear i1 (up (up (up (up (up (up (up σ i_full (i1).toNatClampNeg 0) i_faults (i1).toNatClampNeg 0) i_kind (i1).toNatClampNeg 0) i_restarts (i1).toNatClampNeg 0) i_begun (i1).toNatClampNeg 0) i_measure (i1).toNatClampNeg 0) i_ready (i1).toNatClampNeg ((if ((up (up (up (up (up (up σ i_full (i1).toNatClampNeg 0) i_faults (i1).toNatClampNeg 0) i_kind (i1).toNatClampNeg 0) i_restarts (i1).toNatClampNeg 0) i_begun (i1).toNatClampNeg 0) i_measure (i1).toNatClampNeg 0) i_size (i1).toNatClampNeg) ≤ 0 then 0 else 1) : Int32))) i_from (i1).toNatClampNeg) ((f_MO_clear i1 (up (up (up (up (up (up (up σ i_full (i1).toNatClampNeg 0) i_faults (i1).toNatClampNeg 0) i_kind (i1).toNatClampNeg 0) i_restarts (i1).toNatClampNeg 0) i_begun (i1).toNatClampNeg 0) i_measure (i1).toNatClampNeg 0) i_ready (i1).toNatClampNeg ((if ((up (up (up (up (up (up σ i_full (i1).toNatClampNeg 0) i_faults (i1).toNatClampNeg 0) i_kind (i1).toNatClampNeg 0) i_restarts (i1).toNatClampNeg 0) i_begun (i1).toNatClampNeg 0) i_measure (i1).toNatClampNeg 0) i_size (i1).toNatClampNeg) ≤ 0 then 0 else 1) : Int32))) i_size (i1).toNatClampNeg)) 0 (f_MO_clear i1 (up (up (up (up (up (up (up σ i_full (i1).toNatClampNeg 0) i_faults (i1).toNatClampNeg 0) i_kind (i1).toNatClampNeg 0) i_restarts (i1).toNatClampNeg 0) i_begun (i1).toNatClampNeg 0) i_measure (i1).toNatClampNeg 0) i_ready (i1).toNatClampNeg ((if ((up (up (up (up (up (up σ i_full (i1).toNatClampNeg 0) i_faults (i1).toNatClampNeg 0) i_kind (i1).toNatClampNeg 0) i_restarts (i1).toNatClampNeg 0) i_begun (i1).toNatClampNeg 0) i_measure (i1).toNatClampNeg 0) i_size (i1).toNatClampNeg) ≤ 0 then 0 else 1) : Int32)))).1)))))
set_option maxHeartbeats 4000000 in
set_option maxRecDepth 100000 in
theorem lc_MO_boot_84  {p9 : Program} {e : Env} {s : State} {m : MethodId} {args : Array Value} {below : List Frame} {meth : Method} {c : Code} {A : Nat → Prop} {Q : State → Prop} (X : Cx p9 s m args meth c D (tyL cA) A cX8_boot 4 yX8_boot.cls) : ∀ (k9 : Nat) (i1 : Int32) (σ : St), (hI : Im σ) → (hi : 0 ≤ i1.toInt ∧ i1.toInt ≤ 4) → (4 - i1.toInt < (k9 : Int)) → (∀ (pc : Nat) (lv : List (Nat × Value)), decode cX8_boot pc = .ok (.ireturn, 1) → Vz p9 l e (Rz 1) s m args below meth c D A 4 rh (rcW rh cA) NW 0 0 Q pc lv [.int (lp_MO_boot_84  k9 i1 σ).1] (lp_MO_boot_84  k9 i1 σ).2) → Vz p9 l e (Rz 1) s m args below meth c D A 4 rh (rcW rh cA) NW 0 0 Q 84 [(0, .ref (rh iMO)), (1, .int i1)] [] σ := by
  intro k9
  induction k9 with
  | zero =>
    intro i1 σ hI hi hmu hend
    exact absurd hmu (by omega)
  | succ k9 ih =>
    intro i1 σ hI hi hmu hend
    refine v_iload_n X 1 dX8_boot_84 rfl rfl ?_
    refine v_iconst (v := 4) X dX8_boot_85 (by decide) ?_
    refine v_icmp_ge X 269 dX8_boot_86 (by decide) (fun h86 => ?_) (fun h86 => ?_)
    ·
      refine v_aload_n X 0 dX8_boot_269 rfl rfl ?_
      refine v_getI (i := iMO) (k := 30) X (lt_MO ) (sh_MO ) rfl in_MO (by decide) wf_MO_106 rfl (fun _ => rfl) dX8_boot_270 ?_
      have e9 : lp_MO_boot_84  (k9 + 1) i1 σ = ((σ iMO 30), σ) := by simp only [lp_MO_boot_84, if_pos h86]
      exact v_endI hend dX8_boot_273 (by rw [e9]) (by rw [e9])
    ·
      refine v_aload_n X 0 dX8_boot_89 rfl rfl ?_
      refine v_getR (j := i_full) (i := iMO) (k := 13) X (lt_MO ) (sh_MO ) rfl in_MO (by decide) wf_MO_50 rfl (fun _ => rfl) dX8_boot_90 ?_
      refine v_iload_n X 1 dX8_boot_93 rfl rfl ?_
      refine v_iconst (v := 0) X dX8_boot_94 (by decide) ?_
      have hv95 : vp_in i1 4 := (vin_mk hi.1 (nle (by decide) h86))
      refine v_zast (i := i_full) (t0 := 5) (x := 0) X (Or.inl rfl) (lt_m_full ) (sh_m_full ) rfl hv95 dX8_boot_95 ?_
      generalize hg95 : (up σ i_full (i1).toNatClampNeg 0) = g95
      have hI95 : Im g95 := by rw [← hg95]; exact (Im.upA hI (by decide))
      refine v_aload_n X 0 dX8_boot_96 rfl rfl ?_
      refine v_getR (j := i_faults) (i := iMO) (k := 7) X (lt_MO ) (sh_MO ) rfl in_MO (by decide) wf_MO_31 rfl (fun _ => rfl) dX8_boot_97 ?_
      refine v_iload_n X 1 dX8_boot_100 rfl rfl ?_
      refine v_iconst (v := 0) X dX8_boot_101 (by decide) ?_
      have hv102 : vp_in i1 4 := (vin_mk hi.1 (nle (by decide) h86))
      refine v_iast (i := i_faults) (t0 := 0) X (lt_m_faults ) (sh_m_faults ) rfl hv102 dX8_boot_102 ?_
      generalize hg102 : (up g95 i_faults (i1).toNatClampNeg 0) = g102
      have hI102 : Im g102 := by rw [← hg102]; exact (Im.upA hI95 (by decide))
      refine v_aload_n X 0 dX8_boot_103 rfl rfl ?_
      refine v_getR (j := i_kind) (i := iMO) (k := 8) X (lt_MO ) (sh_MO ) rfl in_MO (by decide) wf_MO_34 rfl (fun _ => rfl) dX8_boot_104 ?_
      refine v_iload_n X 1 dX8_boot_107 rfl rfl ?_
      refine v_iconst (v := 0) X dX8_boot_108 (by decide) ?_
      have hv109 : vp_in i1 4 := (vin_mk hi.1 (nle (by decide) h86))
      refine v_iast (i := i_kind) (t0 := 0) X (lt_m_kind ) (sh_m_kind ) rfl hv109 dX8_boot_109 ?_
      generalize hg109 : (up g102 i_kind (i1).toNatClampNeg 0) = g109
      have hI109 : Im g109 := by rw [← hg109]; exact (Im.upA hI102 (by decide))
      refine v_aload_n X 0 dX8_boot_110 rfl rfl ?_
      refine v_getR (j := i_restarts) (i := iMO) (k := 9) X (lt_MO ) (sh_MO ) rfl in_MO (by decide) wf_MO_37 rfl (fun _ => rfl) dX8_boot_111 ?_
      refine v_iload_n X 1 dX8_boot_114 rfl rfl ?_
      refine v_iconst (v := 0) X dX8_boot_115 (by decide) ?_
      have hv116 : vp_in i1 4 := (vin_mk hi.1 (nle (by decide) h86))
      refine v_iast (i := i_restarts) (t0 := 0) X (lt_m_restarts ) (sh_m_restarts ) rfl hv116 dX8_boot_116 ?_
      generalize hg116 : (up g109 i_restarts (i1).toNatClampNeg 0) = g116
      have hI116 : Im g116 := by rw [← hg116]; exact (Im.upA hI109 (by decide))
      refine v_aload_n X 0 dX8_boot_117 rfl rfl ?_
      refine v_getR (j := i_begun) (i := iMO) (k := 10) X (lt_MO ) (sh_MO ) rfl in_MO (by decide) wf_MO_40 rfl (fun _ => rfl) dX8_boot_118 ?_
      refine v_iload_n X 1 dX8_boot_121 rfl rfl ?_
      refine v_iconst (v := 0) X dX8_boot_122 (by decide) ?_
      have hv123 : vp_in i1 4 := (vin_mk hi.1 (nle (by decide) h86))
      refine v_iast (i := i_begun) (t0 := 0) X (lt_m_begun ) (sh_m_begun ) rfl hv123 dX8_boot_123 ?_
      generalize hg123 : (up g116 i_begun (i1).toNatClampNeg 0) = g123
      have hI123 : Im g123 := by rw [← hg123]; exact (Im.upA hI116 (by decide))
      refine v_aload_n X 0 dX8_boot_124 rfl rfl ?_
      refine v_getR (j := i_measure) (i := iMO) (k := 11) X (lt_MO ) (sh_MO ) rfl in_MO (by decide) wf_MO_43 rfl (fun _ => rfl) dX8_boot_125 ?_
      refine v_iload_n X 1 dX8_boot_128 rfl rfl ?_
      refine v_iconst (v := 0) X dX8_boot_129 (by decide) ?_
      have hv130 : vp_in i1 4 := (vin_mk hi.1 (nle (by decide) h86))
      refine v_iast (i := i_measure) (t0 := 0) X (lt_m_measure ) (sh_m_measure ) rfl hv130 dX8_boot_130 ?_
      generalize hg130 : (up g123 i_measure (i1).toNatClampNeg 0) = g130
      have hI130 : Im g130 := by rw [← hg130]; exact (Im.upA hI123 (by decide))
      refine v_aload_n X 0 dX8_boot_131 rfl rfl ?_
      refine v_getR (j := i_ready) (i := iMO) (k := 12) X (lt_MO ) (sh_MO ) rfl in_MO (by decide) wf_MO_46 rfl (fun _ => rfl) dX8_boot_132 ?_
      refine v_iload_n X 1 dX8_boot_135 rfl rfl ?_
      refine v_aload_n X 0 dX8_boot_136 rfl rfl ?_
      refine v_getR (j := i_size) (i := iMO) (k := 4) X (lt_MO ) (sh_MO ) rfl in_MO (by decide) wf_MO_22 rfl (fun _ => rfl) dX8_boot_137 ?_
      refine v_iload_n X 1 dX8_boot_140 rfl rfl ?_
      have hv141 : vp_in i1 4 := (vin_mk hi.1 (nle (by decide) h86))
      refine v_iald (i := i_size) (t0 := 0) X (lt_m_size ) (sh_m_size ) rfl hv141 dX8_boot_141 ?_
      refine v_suff (pc2 := 150) (lv2 := [(0, .ref (rh iMO)), (1, .int i1)]) (st2 := [.int ((if (g130 i_size (i1).toNatClampNeg) ≤ 0 then 0 else 1) : Int32), .int i1, .ref (rh i_ready)]) (σ2 := g130) ?_ (fun J142 => ?_)
      rotate_left
      ·
        refine v_if_le X 149 dX8_boot_142 (by decide) (fun h142 => ?_) (fun h142 => ?_)
        ·
          refine v_iconst (v := 0) X dX8_boot_149 (by decide) ?_
          have e9 : (((if (g130 i_size (i1).toNatClampNeg) ≤ 0 then 0 else 1) : Int32) : Int32) = 0 := by simp only [if_pos h142]
          rw [e9] at J142
          exact J142
        ·
          refine v_iconst (v := 1) X dX8_boot_145 (by decide) ?_
          refine v_goto (tgt := 150) X dX8_boot_146 (by decide) ?_
          have e9 : (((if (g130 i_size (i1).toNatClampNeg) ≤ 0 then 0 else 1) : Int32) : Int32) = 1 := by simp only [if_neg h142]
          rw [e9] at J142
          exact J142
      have hv150 : vp_in i1 4 := (vin_mk hi.1 (nle (by decide) h86))
      refine v_zast (i := i_ready) (t0 := 5) (x := ((if (g130 i_size (i1).toNatClampNeg) ≤ 0 then 0 else 1) : Int32)) X (by repeat' first | exact Or.inl rfl | exact Or.inr rfl | apply z_ite) (lt_m_ready ) (sh_m_ready ) rfl hv150 dX8_boot_150 ?_
      generalize hg150 : (up g130 i_ready (i1).toNatClampNeg ((if (g130 i_size (i1).toNatClampNeg) ≤ 0 then 0 else 1) : Int32)) = g150
      have hI150 : Im g150 := by rw [← hg150]; exact (Im.upA hI130 (by decide))
      refine v_aload_n X 0 dX8_boot_151 rfl rfl ?_
      refine v_iload_n X 1 dX8_boot_152 rfl rfl ?_
      refine v_callV_CV (rest := []) X [.int i1] (c_MO_clear i1 g150 (vin_mk hi.1 (nle (by decide) h86))) mf_MO_clear wi_MO_clear wl_MO_clear (lt_MO ) (sh_MO ) rfl wm_MO_124 rfl ⟨by decide, by decide⟩ (Nat.le_of_ble_eq_true rfl) ⟨by decide, by decide⟩ dX8_boot_153 ?_
      generalize hg153 : (f_MO_clear i1 g150) = g153
      have hI153 : Im g153 := by rw [← hg153]; exact (I_MO_clear i1 hI150 (vin_mk hi.1 (nle (by decide) h86)))
      refine v_aload_n X 0 dX8_boot_156 rfl rfl ?_
      refine v_getR (j := i_size) (i := iMO) (k := 4) X (lt_MO ) (sh_MO ) rfl in_MO (by decide) wf_MO_22 rfl (fun _ => rfl) dX8_boot_157 ?_
      refine v_iload_n X 1 dX8_boot_160 rfl rfl ?_
      have hv161 : vp_in i1 4 := (vin_mk hi.1 (nle (by decide) h86))
      refine v_iald (i := i_size) (t0 := 0) X (lt_m_size ) (sh_m_size ) rfl hv161 dX8_boot_161 ?_
      refine v_if_le X 263 dX8_boot_162 (by decide) (fun h162 => ?_) (fun h162 => ?_)
      ·
        refine v_iinc (v := (i1 + 1)) (lv' := [(1, .int (i1 + 1)), (0, .ref (rh iMO))]) X 1 dX8_boot_263 rfl rfl (by decide) rfl ?_
        refine v_goto (tgt := 84) X dX8_boot_266 (by decide) ?_
        have e9 : lp_MO_boot_84  (k9 + 1) i1 σ = lp_MO_boot_84  k9 (i1 + 1) g153 := by subst hg95; subst hg102; subst hg109; subst hg116; subst hg123; subst hg130; subst hg150; subst hg153; simp only [lp_MO_boot_84, if_neg h86, if_pos h162]
        rw [e9] at hend
        refine v_lv (lv' := [(0, .ref (rh iMO)), (1, .int (i1 + 1))]) [1, 0] rfl ?_
        exact ih (i1 + 1) g153 hI153 ⟨by have u9 := i_succ h86; omega, by have u9 := i_succ h86; have u8 := h86; rw [ile] at u8; have z : (4 : Int32).toInt = 4 := (by decide); omega⟩ (by have u9 := i_succ h86; omega) hend
      ·
        refine v_aload_n X 0 dX8_boot_165 rfl rfl ?_
        refine v_aload_n X 0 dX8_boot_166 rfl rfl ?_
        refine v_getR (j := i_from) (i := iMO) (k := 3) X (lt_MO ) (sh_MO ) rfl in_MO (by decide) wf_MO_19 rfl (fun _ => rfl) dX8_boot_167 ?_
        refine v_iload_n X 1 dX8_boot_170 rfl rfl ?_
        have hv171 : vp_in i1 4 := (vin_mk hi.1 (nle (by decide) h86))
        refine v_iald (i := i_from) (t0 := 0) X (lt_m_from ) (sh_m_from ) rfl hv171 dX8_boot_171 ?_
        refine v_aload_n X 0 dX8_boot_172 rfl rfl ?_
        refine v_getR (j := i_size) (i := iMO) (k := 4) X (lt_MO ) (sh_MO ) rfl in_MO (by decide) wf_MO_22 rfl (fun _ => rfl) dX8_boot_173 ?_
        refine v_iload_n X 1 dX8_boot_176 rfl rfl ?_
        have hv177 : vp_in i1 4 := (vin_mk hi.1 (nle (by decide) h86))
        refine v_iald (i := i_size) (t0 := 0) X (lt_m_size ) (sh_m_size ) rfl hv177 dX8_boot_177 ?_
        refine v_callV_CI (rest := []) X [.int (g153 i_from (i1).toNatClampNeg), .int (g153 i_size (i1).toNatClampNeg)] (c_MO_mix (g153 i_from (i1).toNatClampNeg) (g153 i_size (i1).toNatClampNeg) g153 ) mf_MO_mix wi_MO_mix wl_MO_mix (lt_MO ) (sh_MO ) rfl wm_MO_128 rfl ⟨by decide, by decide⟩ (Nat.le_of_ble_eq_true rfl) ⟨by decide, by decide⟩ dX8_boot_178 ?_
        refine v_istore_n (lv' := [(2, .int (f_MO_mix (g153 i_from (i1).toNatClampNeg) (g153 i_size (i1).toNatClampNeg))), (0, .ref (rh iMO)), (1, .int i1)]) X dX8_boot_181 rfl (by decide) rfl ?_
        refine v_iconst (v := 0) X dX8_boot_182 (by decide) ?_
        refine v_istore_n (lv' := [(3, .int 0), (2, .int (f_MO_mix (g153 i_from (i1).toNatClampNeg) (g153 i_size (i1).toNatClampNeg))), (0, .ref (rh iMO)), (1, .int i1)]) X dX8_boot_183 rfl (by decide) rfl ?_
        refine v_lv (lv' := [(0, .ref (rh iMO)), (1, .int i1), (2, .int (f_MO_mix (g153 i_from (i1).toNatClampNeg) (g153 i_size (i1).toNatClampNeg))), (3, .int 0)]) [2, 3, 1, 0] rfl ?_
        refine lc_MO_boot_184  X 33 i1 (f_MO_mix (g153 i_from (i1).toNatClampNeg) (g153 i_size (i1).toNatClampNeg)) 0 g153 hI153 (vin_mk hi.1 (nle (by decide) h86)) ⟨by decide, by have u1 := ((hI153).1 _ (vin_lt (vin_mk hi.1 (nle (by decide) h86)))).2.1; rw [t0i]; exact u1⟩ (by have u1 := ((hI153).1 _ (vin_lt (vin_mk hi.1 (nle (by decide) h86)))).2.2.1; rw [t0i]; omega) ?_
        generalize hg184 : (lp_MO_boot_184  33 i1 (f_MO_mix (g153 i_from (i1).toNatClampNeg) (g153 i_size (i1).toNatClampNeg)) 0 g153) = g184
        have hI184 : Im g184.2 := by rw [← hg184]; exact (Ix_MO_boot _ _ _ _ _ hI153)
        refine v_aload_n X 0 dX8_boot_243 rfl rfl ?_
        refine v_getR (j := i_measure) (i := iMO) (k := 11) X (lt_MO ) (sh_MO ) rfl in_MO (by decide) wf_MO_43 rfl (fun _ => rfl) dX8_boot_244 ?_
        refine v_iload_n X 1 dX8_boot_247 rfl rfl ?_
        refine v_iload_n X 2 dX8_boot_248 rfl rfl ?_
        have hv249 : vp_in i1 4 := (vin_mk hi.1 (nle (by decide) h86))
        refine v_iast (i := i_measure) (t0 := 0) X (lt_m_measure ) (sh_m_measure ) rfl hv249 dX8_boot_249 ?_
        generalize hg249 : (up g184.2 i_measure (i1).toNatClampNeg g184.1) = g249
        have hI249 : Im g249 := by rw [← hg249]; exact (Im.upA hI184 (by decide))
        refine v_aload_n X 0 dX8_boot_250 rfl rfl ?_
        refine v_aload_n X 0 dX8_boot_251 rfl rfl ?_
        refine v_aload_n X 0 dX8_boot_252 rfl rfl ?_
        refine v_getI (i := iMO) (k := 30) X (lt_MO ) (sh_MO ) rfl in_MO (by decide) wf_MO_106 rfl (fun _ => rfl) dX8_boot_253 ?_
        refine v_iload_n X 2 dX8_boot_256 rfl rfl ?_
        refine v_callV_CI (rest := [.ref (rh iMO)]) X [.int (g249 iMO 30), .int g184.1] (c_MO_mix (g249 iMO 30) g184.1 g249 ) mf_MO_mix wi_MO_mix wl_MO_mix (lt_MO ) (sh_MO ) rfl wm_MO_128 rfl ⟨by decide, by decide⟩ (Nat.le_of_ble_eq_true rfl) ⟨by decide, by decide⟩ dX8_boot_257 ?_
        refine v_put (i := iMO) (k := 30) (x := (f_MO_mix (g249 iMO 30) g184.1)) (ty := .int) X (lt_MO ) (sh_MO ) rfl in_MO (by decide) tyX8 tyX8_ok nX8 wf_MO_106 rfl rfl rfl rfl rfl (fun _ => Nat.le_of_ble_eq_true rfl) (fun _ _ => rfl) dX8_boot_260 ?_
        generalize hg260 : (up g249 iMO 30 (f_MO_mix (g249 iMO 30) g184.1)) = g260
        have hI260 : Im g260 := by rw [← hg260]; exact (Im.upMO hI249 (by decide))
        refine v_iinc (v := (i1 + 1)) (lv' := [(1, .int (i1 + 1)), (0, .ref (rh iMO)), (2, .int g184.1)]) X 1 dX8_boot_263 rfl rfl (by decide) rfl ?_
        refine v_goto (tgt := 84) X dX8_boot_266 (by decide) ?_
        have e9 : lp_MO_boot_84  (k9 + 1) i1 σ = lp_MO_boot_84  k9 (i1 + 1) g260 := by subst hg95; subst hg102; subst hg109; subst hg116; subst hg123; subst hg130; subst hg150; subst hg153; subst hg184; subst hg249; subst hg260; simp only [lp_MO_boot_84, if_neg h86, if_neg h162]
        rw [e9] at hend
        refine v_lv (lv' := [(0, .ref (rh iMO)), (1, .int (i1 + 1))]) [1, 0] rfl ?_
        exact ih (i1 + 1) g260 hI260 ⟨by have u9 := i_succ h86; omega, by have u9 := i_succ h86; have u8 := h86; rw [ile] at u8; have z : (4 : Int32).toInt = 4 := (by decide); omega⟩ (by have u9 := i_succ h86; omega) hend
def f_MO_boot (σ : St) : Int32 × St :=
  (if ((up σ iMO 33 ((if (σ iMO 24) = 0 then (if (σ iMO 26) = 0 then 1 else 0) else 1) : Int32)) iMO 33) = 0 then (lp_MO_boot_84  5 0 (up (up (up (up (up (up (up (up (up σ iMO 33 ((if (σ iMO 24) = 0 then (if (σ iMO 26) = 0 then 1 else 0) else 1) : Int32)) iMO 24 1) iMO 32 (((up (up σ iMO 33 ((if (σ iMO 24) = 0 then (if (σ iMO 26) = 0 then 1 else 0) else 1) : Int32)) iMO 24 1) iMO 32) + 1)) iMO 30 0) iMO 29 0) iMO 27 0) iMO 28 ((up (up (up (up (up (up σ iMO 33 ((if (σ iMO 24) = 0 then (if (σ iMO 26) = 0 then 1 else 0) else 1) : Int32)) iMO 24 1) iMO 32 (((up (up σ iMO 33 ((if (σ iMO 24) = 0 then (if (σ iMO 26) = 0 then 1 else 0) else 1) : Int32)) iMO 24 1) iMO 32) + 1)) iMO 30 0) iMO 29 0) iMO 27 0) i_length (0 : Int32).toNatClampNeg)) iMO 25 0) iMO 31 1)) else (0, (up σ iMO 33 ((if (σ iMO 24) = 0 then (if (σ iMO 26) = 0 then 1 else 0) else 1) : Int32))))
set_option maxHeartbeats 4000000 in
set_option maxRecDepth 100000 in
theorem c_MO_boot  (σ : St) (hI : Im σ) : CI l D (tyL cA) rh (rcW rh cA) NW yX8_boot cX8_boot 4 .int 1 [.ref (rh iMO)] σ (f_MO_boot σ).1 (f_MO_boot σ).2 := by
  refine CI.of rfl (Nat.le_of_ble_eq_true rfl) rfl ?_
  intro p9 e s m args below meth c A Q X hend
  refine v_lv (lv' := [(0, .ref (rh iMO))]) [0] rfl ?_
  refine v_aload_n X 0 dX8_boot_0 rfl rfl ?_
  refine v_aload_n X 0 dX8_boot_1 rfl rfl ?_
  refine v_getI (i := iMO) (k := 24) X (lt_MO ) (sh_MO ) rfl in_MO (by decide) wf_MO_88 rfl (fun _ => rfl) dX8_boot_2 ?_
  refine v_suff (pc2 := 20) (lv2 := [(0, .ref (rh iMO))]) (st2 := [.int ((if (σ iMO 24) = 0 then (if (σ iMO 26) = 0 then 1 else 0) else 1) : Int32), .ref (rh iMO)]) (σ2 := σ) ?_ (fun J5 => ?_)
  rotate_left
  ·
    refine v_if_ne X 15 dX8_boot_5 (by decide) (fun h5 => ?_) (fun h5 => ?_)
    ·
      refine v_iconst (v := 1) X dX8_boot_15 (by decide) ?_
      refine v_goto (tgt := 20) X dX8_boot_16 (by decide) ?_
      have e9 : (((if (σ iMO 24) = 0 then (if (σ iMO 26) = 0 then 1 else 0) else 1) : Int32) : Int32) = 1 := by simp only [if_neg h5]
      rw [e9] at J5
      exact J5
    ·
      refine v_aload_n X 0 dX8_boot_8 rfl rfl ?_
      refine v_getI (i := iMO) (k := 26) X (lt_MO ) (sh_MO ) rfl in_MO (by decide) wf_MO_100 rfl (fun _ => rfl) dX8_boot_9 ?_
      refine v_if_ne X 19 dX8_boot_12 (by decide) (fun h12 => ?_) (fun h12 => ?_)
      ·
        refine v_iconst (v := 0) X dX8_boot_19 (by decide) ?_
        have e9 : (((if (σ iMO 24) = 0 then (if (σ iMO 26) = 0 then 1 else 0) else 1) : Int32) : Int32) = 0 := by simp only [if_pos h5, if_neg h12]
        rw [e9] at J5
        exact J5
      ·
        refine v_iconst (v := 1) X dX8_boot_15 (by decide) ?_
        refine v_goto (tgt := 20) X dX8_boot_16 (by decide) ?_
        have e9 : (((if (σ iMO 24) = 0 then (if (σ iMO 26) = 0 then 1 else 0) else 1) : Int32) : Int32) = 1 := by simp only [if_pos h5, if_pos h12]
        rw [e9] at J5
        exact J5
  refine v_put (i := iMO) (k := 33) (x := ((if (σ iMO 24) = 0 then (if (σ iMO 26) = 0 then 1 else 0) else 1) : Int32)) (ty := .int) X (lt_MO ) (sh_MO ) rfl in_MO (by decide) tyX8 tyX8_ok nX8 wf_MO_84 rfl rfl rfl rfl rfl (fun _ => Nat.le_of_ble_eq_true rfl) (fun _ _ => rfl) dX8_boot_20 ?_
  generalize hg20 : (up σ iMO 33 ((if (σ iMO 24) = 0 then (if (σ iMO 26) = 0 then 1 else 0) else 1) : Int32)) = g20
  have hI20 : Im g20 := by rw [← hg20]; exact (Im.upMO hI (by decide))
  refine v_aload_n X 0 dX8_boot_23 rfl rfl ?_
  refine v_getI (i := iMO) (k := 33) X (lt_MO ) (sh_MO ) rfl in_MO (by decide) wf_MO_84 rfl (fun _ => rfl) dX8_boot_24 ?_
  refine v_if_eq X 32 dX8_boot_27 (by decide) (fun h27 => ?_) (fun h27 => ?_)
  ·
    refine v_aload_n X 0 dX8_boot_32 rfl rfl ?_
    refine v_iconst (v := 1) X dX8_boot_33 (by decide) ?_
    refine v_put (i := iMO) (k := 24) (x := 1) (ty := .boolean) X (lt_MO ) (sh_MO ) rfl in_MO (by decide) tyX8 tyX8_ok nX8 wf_MO_88 rfl rfl rfl (zN (Or.inr rfl)) (zF (Or.inr rfl)) (fun _ => Nat.le_of_ble_eq_true rfl) (fun _ _ => rfl) dX8_boot_34 ?_
    generalize hg34 : (up g20 iMO 24 1) = g34
    have hI34 : Im g34 := by rw [← hg34]; exact (Im.booted hI20 (by subst hg20; exact boot_w hI h27))
    refine v_aload_n X 0 dX8_boot_37 rfl rfl ?_
    refine v_dup X dX8_boot_38 rfl ?_
    refine v_getI (i := iMO) (k := 32) X (lt_MO ) (sh_MO ) rfl in_MO (by decide) wf_MO_103 rfl (fun _ => rfl) dX8_boot_39 ?_
    refine v_iconst (v := 1) X dX8_boot_42 (by decide) ?_
    refine v_iadd X dX8_boot_43 ?_
    refine v_put (i := iMO) (k := 32) (x := ((g34 iMO 32) + 1)) (ty := .int) X (lt_MO ) (sh_MO ) rfl in_MO (by decide) tyX8 tyX8_ok nX8 wf_MO_103 rfl rfl rfl rfl rfl (fun _ => Nat.le_of_ble_eq_true rfl) (fun _ _ => rfl) dX8_boot_44 ?_
    generalize hg44 : (up g34 iMO 32 ((g34 iMO 32) + 1)) = g44
    have hI44 : Im g44 := by rw [← hg44]; exact (Im.upMO hI34 (by decide))
    refine v_aload_n X 0 dX8_boot_47 rfl rfl ?_
    refine v_iconst (v := 0) X dX8_boot_48 (by decide) ?_
    refine v_put (i := iMO) (k := 30) (x := 0) (ty := .int) X (lt_MO ) (sh_MO ) rfl in_MO (by decide) tyX8 tyX8_ok nX8 wf_MO_106 rfl rfl rfl rfl rfl (fun _ => Nat.le_of_ble_eq_true rfl) (fun _ _ => rfl) dX8_boot_49 ?_
    generalize hg49 : (up g44 iMO 30 0) = g49
    have hI49 : Im g49 := by rw [← hg49]; exact (Im.upMO hI44 (by decide))
    refine v_aload_n X 0 dX8_boot_52 rfl rfl ?_
    refine v_iconst (v := 0) X dX8_boot_53 (by decide) ?_
    refine v_put (i := iMO) (k := 29) (x := 0) (ty := .int) X (lt_MO ) (sh_MO ) rfl in_MO (by decide) tyX8 tyX8_ok nX8 wf_MO_109 rfl rfl rfl rfl rfl (fun _ => Nat.le_of_ble_eq_true rfl) (fun _ _ => rfl) dX8_boot_54 ?_
    generalize hg54 : (up g49 iMO 29 0) = g54
    have hI54 : Im g54 := by rw [← hg54]; exact (Im.upMO hI49 (by decide))
    refine v_aload_n X 0 dX8_boot_57 rfl rfl ?_
    refine v_iconst (v := 0) X dX8_boot_58 (by decide) ?_
    refine v_put (i := iMO) (k := 27) (x := 0) (ty := .int) X (lt_MO ) (sh_MO ) rfl in_MO (by decide) tyX8 tyX8_ok nX8 wf_MO_112 rfl rfl rfl rfl rfl (fun _ => Nat.le_of_ble_eq_true rfl) (fun _ _ => rfl) dX8_boot_59 ?_
    generalize hg59 : (up g54 iMO 27 0) = g59
    have hI59 : Im g59 := by rw [← hg59]; exact (Im.at hI54 (vin_mk (by decide) (by decide)))
    refine v_aload_n X 0 dX8_boot_62 rfl rfl ?_
    refine v_aload_n X 0 dX8_boot_63 rfl rfl ?_
    refine v_getR (j := i_length) (i := iMO) (k := 15) X (lt_MO ) (sh_MO ) rfl in_MO (by decide) wf_MO_56 rfl (fun _ => rfl) dX8_boot_64 ?_
    refine v_iconst (v := 0) X dX8_boot_67 (by decide) ?_
    have hv68 : vp_in 0 6 := (vin_mk (by decide) (by decide))
    refine v_iald (i := i_length) (t0 := 0) X (lt_m_length ) (sh_m_length ) rfl hv68 dX8_boot_68 ?_
    refine v_put (i := iMO) (k := 28) (x := (g59 i_length (0 : Int32).toNatClampNeg)) (ty := .int) X (lt_MO ) (sh_MO ) rfl in_MO (by decide) tyX8 tyX8_ok nX8 wf_MO_115 rfl rfl rfl rfl rfl (fun _ => Nat.le_of_ble_eq_true rfl) (fun _ _ => rfl) dX8_boot_69 ?_
    generalize hg69 : (up g59 iMO 28 (g59 i_length (0 : Int32).toNatClampNeg)) = g69
    have hI69 : Im g69 := by rw [← hg69]; exact (Im.upMO hI59 (by decide))
    refine v_aload_n X 0 dX8_boot_72 rfl rfl ?_
    refine v_iconst (v := 0) X dX8_boot_73 (by decide) ?_
    refine v_put (i := iMO) (k := 25) (x := 0) (ty := .boolean) X (lt_MO ) (sh_MO ) rfl in_MO (by decide) tyX8 tyX8_ok nX8 wf_MO_118 rfl rfl rfl (zN (Or.inl rfl)) (zF (Or.inl rfl)) (fun _ => Nat.le_of_ble_eq_true rfl) (fun _ _ => rfl) dX8_boot_74 ?_
    generalize hg74 : (up g69 iMO 25 0) = g74
    have hI74 : Im g74 := by rw [← hg74]; exact (Im.upMO hI69 (by decide))
    refine v_aload_n X 0 dX8_boot_77 rfl rfl ?_
    refine v_iconst (v := 1) X dX8_boot_78 (by decide) ?_
    refine v_put (i := iMO) (k := 31) (x := 1) (ty := .int) X (lt_MO ) (sh_MO ) rfl in_MO (by decide) tyX8 tyX8_ok nX8 wf_MO_121 rfl rfl rfl rfl rfl (fun _ => Nat.le_of_ble_eq_true rfl) (fun _ _ => rfl) dX8_boot_79 ?_
    generalize hg79 : (up g74 iMO 31 1) = g79
    have hI79 : Im g79 := by rw [← hg79]; exact (Im.upMO hI74 (by decide))
    refine v_iconst (v := 0) X dX8_boot_82 (by decide) ?_
    refine v_istore_n (lv' := [(1, .int 0), (0, .ref (rh iMO))]) X dX8_boot_83 rfl (by decide) rfl ?_
    have e9 : f_MO_boot σ = lp_MO_boot_84  5 0 g79 := by subst hg20; subst hg34; subst hg44; subst hg49; subst hg54; subst hg59; subst hg69; subst hg74; subst hg79; simp only [f_MO_boot, if_pos h27]
    rw [e9] at hend
    refine v_lv (lv' := [(0, .ref (rh iMO)), (1, .int 0)]) [1, 0] rfl ?_
    exact lc_MO_boot_84   X 5 0 g79 hI79 ⟨by decide, by decide⟩ (by decide) hend
  ·
    refine v_iconst (v := 0) X dX8_boot_30 (by decide) ?_
    have e9 : f_MO_boot σ = (0, g20) := by subst hg20; simp only [f_MO_boot, if_neg h27]
    exact v_endI hend dX8_boot_31 (by rw [e9]) (by rw [e9])
-- I_MO_boot: by hand
end CLS
