/-! the reference's loop of ticks -/
def Ir (t b : Int32) (σ : St) : Prop := Im σ ∧ Kt t b σ
theorem Ir.upA {t b : Int32} {σ : St} {i k : Nat} {v : Int32} (h : Ir t b σ) (hi : (i ≠ 33 ∧ i ≠ 34 ∧ i ≠ 44 ∧ i ≠ 29) ∧ iMO ≠ i) : Ir t b (up σ i k v) := ⟨Im.upA h.1 hi.1, Kt.upA h.2 hi.2⟩
theorem Ir.upMO {t b : Int32} {σ : St} {k : Nat} {v : Int32} (h : Ir t b σ) (hk : (k ≠ 24 ∧ k ≠ 26 ∧ k ≠ 27) ∧ 33 ≠ k ∧ 24 ≠ k) : Ir t b (up σ iMO k v) := ⟨Im.upMO h.1 hk.1, Kt.upMO h.2 hk.2⟩
theorem Ir.step {t b p : Int32} {σ : St} (h : Ir t b σ) (hq : vp_in p 4) : Ir t b (f_MO_step p σ) := ⟨I_MO_step p h.1 hq, K_MO_step p h.2⟩
theorem Im.at {σ : St} {v : Int32} (h : Im σ) (hv : vp_in v 6) : Im (up σ iMO 27 v) := by
  obtain ⟨h1, h2, h3, h4, h5⟩ := h
  have e1 : up σ iMO 27 v i_from = σ i_from := up_row (by decide)
  have e2 : up σ iMO 27 v i_size = σ i_size := up_row (by decide)
  have e3 : up σ iMO 27 v i_owner = σ i_owner := up_row (by decide)
  have e4 : up σ iMO 27 v iMO 26 = σ iMO 26 := up_slot (by decide)
  have e5 : up σ iMO 27 v iMO 24 = σ iMO 24 := up_slot (by decide)
  have e6 : up σ iMO 27 v iMO 27 = v := by rw [up_self]; simp [upd]
  unfold Im
  rw [e1, e2, e3, e4, e5, e6]
  exact ⟨h1, h2, vp_in_iff.mp hv, h4, h5⟩
theorem Ir.at {t b v : Int32} {σ : St} (h : Ir t b σ) (hv : vp_in v 6) : Ir t b (up σ iMO 27 v) := ⟨Im.at h.1 hv, Kt.upMO h.2 (by decide)⟩
theorem ow_in {σ : St} (hI : Im σ) : vp_in (σ i_owner (σ iMO 27).toNatClampNeg) 4 := by
  have h1 := hI.2.2.1
  have h2 := hI.2.2.2.1 (σ iMO 27).toNatClampNeg (by have h3 := clamp_toInt h1.1; omega)
  exact vin_mk h2.1 h2.2
theorem w_ne {x : Int32} (h : 1 ≤ x.toInt) : ¬ x = 0 := by
  intro e
  rw [e, t0i] at h
  omega
theorem rem_in {σ : St} (hI : Im σ) (hw : 1 ≤ (σ iMO 26).toInt) : vp_in (((σ iMO 27) + 1) - ((σ iMO 27) + 1) / (σ iMO 26) * (σ iMO 26)) 6 := by
  have h1 := hI.2.1
  have h2 := hI.2.2.1
  obtain ⟨x, hx, ex⟩ := nI_of (nlt0 h1.1)
  obtain ⟨y, hy, ey⟩ := nI_of (nlt0 h2.1)
  rw [ex, nI_toInt hx] at hw h1
  rw [ey, nI_toInt hy] at h2
  rw [ex, ey, nI_1, pk_rem (by omega) (by omega) (by omega)]
  have h3 := Nat.mod_lt (y + 1) (show 0 < x by omega)
  exact vp_in_nI (by omega) (by decide)
theorem run_i {σ : St} {xa : Int32} (hI : Im σ) : ∃ t9 b9 : Int32, (t9 = 0 → (1 ≤ xa.toInt ∧ xa.toInt ≤ 400) ∧ ¬ b9 = 0) ∧ Ir t9 b9 (up σ iMO 33 ((if xa < 1 then 1 else (if xa ≤ 400 then (if (σ iMO 24) = 0 then 2 else 0) else 1)) : Int32)) := by
  refine ⟨((if xa < 1 then 1 else (if xa ≤ 400 then (if (σ iMO 24) = 0 then 2 else 0) else 1)) : Int32), σ iMO 24, ?_, Im.upMO hI (by decide), ⟨by rw [up_self]; exact if_pos rfl, up_slot (by decide)⟩⟩
  intro h
  by_cases h1 : xa < 1
  · rw [if_pos h1] at h; exact absurd h (by decide)
  · by_cases h2 : xa ≤ 400
    · by_cases h3 : σ iMO 24 = 0
      · rw [if_neg h1, if_pos h2, if_pos h3] at h; exact absurd h (by decide)
      · rw [ilt] at h1; rw [ile] at h2
        have z1 : (1 : Int32).toInt = 1 := by decide
        have z4 : (400 : Int32).toInt = 400 := by decide
        exact ⟨⟨by omega, by omega⟩, h3⟩
    · rw [if_neg h1, if_neg h2] at h; exact absurd h (by decide)
theorem mf_MO_step : MF yX8_step cX8_step 4 none 1 := ⟨gw_of (by decide +kernel) rfl, gw_of (by decide +kernel) rfl, by decide +kernel, by decide +kernel, by decide +kernel⟩
theorem wi_MO_step : Cond.instanceMethod yX8_step ∈ gw := gw_of (by decide +kernel) rfl
theorem wl_MO_step : Cond.selects yX8_step.cls yX8_step yX8_step ∈ gw := gw_of (by decide +kernel) rfl
theorem wm_MO_177 : Cond.methodLink RX8 177 yX8_step ∈ gw := gw_of (by decide +kernel) rfl
section CLS
variable {l : Launch} {D : va_G} {rh : Nat → Nat} {cA : Nat → ClassId}
def lp_MO_run_36 (xa : Int32) : Nat → Int32 → Int32 → St → Int32 × St
  | 0, _, _, σ => (0, σ)
  | k9 + 1, m2, i3, σ => (if xa ≤ i3 then (m2, σ) else (if (σ iMO 33) = 0 then (if ((up σ iMO 29 ((σ iMO 29) + 1)) i_ready (((up σ iMO 29 ((σ iMO 29) + 1)) i_owner (((up σ iMO 29 ((σ iMO 29) + 1)) iMO 27)).toNatClampNeg)).toNatClampNeg) = 0 then (if ((up (up σ iMO 29 ((σ iMO 29) + 1)) iMO 28 (((up σ iMO 29 ((σ iMO 29) + 1)) iMO 28) - 1)) iMO 28) = 0 then (lp_MO_run_36 xa k9 m2 (i3 + 1) (up (up (up (up (up (up σ iMO 29 ((σ iMO 29) + 1)) iMO 28 (((up σ iMO 29 ((σ iMO 29) + 1)) iMO 28) - 1)) iMO 27 ((((up (up σ iMO 29 ((σ iMO 29) + 1)) iMO 28 (((up σ iMO 29 ((σ iMO 29) + 1)) iMO 28) - 1)) iMO 27) + 1) - (((up (up σ iMO 29 ((σ iMO 29) + 1)) iMO 28 (((up σ iMO 29 ((σ iMO 29) + 1)) iMO 28) - 1)) iMO 27) + 1) / ((up (up σ iMO 29 ((σ iMO 29) + 1)) iMO 28 (((up σ iMO 29 ((σ iMO 29) + 1)) iMO 28) - 1)) iMO 26) * ((up (up σ iMO 29 ((σ iMO 29) + 1)) iMO 28 (((up σ iMO 29 ((σ iMO 29) + 1)) iMO 28) - 1)) iMO 26))) iMO 28 ((up (up (up σ iMO 29 ((σ iMO 29) + 1)) iMO 28 (((up σ iMO 29 ((σ iMO 29) + 1)) iMO 28) - 1)) iMO 27 ((((up (up σ iMO 29 ((σ iMO 29) + 1)) iMO 28 (((up σ iMO 29 ((σ iMO 29) + 1)) iMO 28) - 1)) iMO 27) + 1) - (((up (up σ iMO 29 ((σ iMO 29) + 1)) iMO 28 (((up σ iMO 29 ((σ iMO 29) + 1)) iMO 28) - 1)) iMO 27) + 1) / ((up (up σ iMO 29 ((σ iMO 29) + 1)) iMO 28 (((up σ iMO 29 ((σ iMO 29) + 1)) iMO 28) - 1)) iMO 26) * ((up (up σ iMO 29 ((σ iMO 29) + 1)) iMO 28 (((up σ iMO 29 ((σ iMO 29) + 1)) iMO 28) - 1)) iMO 26))) i_length (((up (up (up σ iMO 29 ((σ iMO 29) + 1)) iMO 28 (((up σ iMO 29 ((σ iMO 29) + 1)) iMO 28) - 1)) iMO 27 ((((up (up σ iMO 29 ((σ iMO 29) + 1)) iMO 28 (((up σ iMO 29 ((σ iMO 29) + 1)) iMO 28) - 1)) iMO 27) + 1) - (((up (up σ iMO 29 ((σ iMO 29) + 1)) iMO 28 (((up σ iMO 29 ((σ iMO 29) + 1)) iMO 28) - 1)) iMO 27) + 1) / ((up (up σ iMO 29 ((σ iMO 29) + 1)) iMO 28 (((up σ iMO 29 ((σ iMO 29) + 1)) iMO 28) - 1)) iMO 26) * ((up (up σ iMO 29 ((σ iMO 29) + 1)) iMO 28 (((up σ iMO 29 ((σ iMO 29) + 1)) iMO 28) - 1)) iMO 26))) iMO 27)).toNatClampNeg)) iMO 25 0) iMO 31 (((up (up (up (up (up σ iMO 29 ((σ iMO 29) + 1)) iMO 28 (((up σ iMO 29 ((σ iMO 29) + 1)) iMO 28) - 1)) iMO 27 ((((up (up σ iMO 29 ((σ iMO 29) + 1)) iMO 28 (((up σ iMO 29 ((σ iMO 29) + 1)) iMO 28) - 1)) iMO 27) + 1) - (((up (up σ iMO 29 ((σ iMO 29) + 1)) iMO 28 (((up σ iMO 29 ((σ iMO 29) + 1)) iMO 28) - 1)) iMO 27) + 1) / ((up (up σ iMO 29 ((σ iMO 29) + 1)) iMO 28 (((up σ iMO 29 ((σ iMO 29) + 1)) iMO 28) - 1)) iMO 26) * ((up (up σ iMO 29 ((σ iMO 29) + 1)) iMO 28 (((up σ iMO 29 ((σ iMO 29) + 1)) iMO 28) - 1)) iMO 26))) iMO 28 ((up (up (up σ iMO 29 ((σ iMO 29) + 1)) iMO 28 (((up σ iMO 29 ((σ iMO 29) + 1)) iMO 28) - 1)) iMO 27 ((((up (up σ iMO 29 ((σ iMO 29) + 1)) iMO 28 (((up σ iMO 29 ((σ iMO 29) + 1)) iMO 28) - 1)) iMO 27) + 1) - (((up (up σ iMO 29 ((σ iMO 29) + 1)) iMO 28 (((up σ iMO 29 ((σ iMO 29) + 1)) iMO 28) - 1)) iMO 27) + 1) / ((up (up σ iMO 29 ((σ iMO 29) + 1)) iMO 28 (((up σ iMO 29 ((σ iMO 29) + 1)) iMO 28) - 1)) iMO 26) * ((up (up σ iMO 29 ((σ iMO 29) + 1)) iMO 28 (((up σ iMO 29 ((σ iMO 29) + 1)) iMO 28) - 1)) iMO 26))) i_length (((up (up (up σ iMO 29 ((σ iMO 29) + 1)) iMO 28 (((up σ iMO 29 ((σ iMO 29) + 1)) iMO 28) - 1)) iMO 27 ((((up (up σ iMO 29 ((σ iMO 29) + 1)) iMO 28 (((up σ iMO 29 ((σ iMO 29) + 1)) iMO 28) - 1)) iMO 27) + 1) - (((up (up σ iMO 29 ((σ iMO 29) + 1)) iMO 28 (((up σ iMO 29 ((σ iMO 29) + 1)) iMO 28) - 1)) iMO 27) + 1) / ((up (up σ iMO 29 ((σ iMO 29) + 1)) iMO 28 (((up σ iMO 29 ((σ iMO 29) + 1)) iMO 28) - 1)) iMO 26) * ((up (up σ iMO 29 ((σ iMO 29) + 1)) iMO 28 (((up σ iMO 29 ((σ iMO 29) + 1)) iMO 28) - 1)) iMO 26))) iMO 27)).toNatClampNeg)) iMO 25 0) iMO 31) + 1))) else (lp_MO_run_36 xa k9 m2 (i3 + 1) (up (up σ iMO 29 ((σ iMO 29) + 1)) iMO 28 (((up σ iMO 29 ((σ iMO 29) + 1)) iMO 28) - 1)))) else (if ((up σ iMO 29 ((σ iMO 29) + 1)) iMO 25) = 0 then (if ((up (f_MO_step ((up σ iMO 29 ((σ iMO 29) + 1)) i_owner (((up σ iMO 29 ((σ iMO 29) + 1)) iMO 27)).toNatClampNeg) (up σ iMO 29 ((σ iMO 29) + 1))) iMO 28 (((f_MO_step ((up σ iMO 29 ((σ iMO 29) + 1)) i_owner (((up σ iMO 29 ((σ iMO 29) + 1)) iMO 27)).toNatClampNeg) (up σ iMO 29 ((σ iMO 29) + 1))) iMO 28) - 1)) iMO 28) = 0 then (lp_MO_run_36 xa k9 (m2 + 1) (i3 + 1) (up (up (up (up (up (f_MO_step ((up σ iMO 29 ((σ iMO 29) + 1)) i_owner (((up σ iMO 29 ((σ iMO 29) + 1)) iMO 27)).toNatClampNeg) (up σ iMO 29 ((σ iMO 29) + 1))) iMO 28 (((f_MO_step ((up σ iMO 29 ((σ iMO 29) + 1)) i_owner (((up σ iMO 29 ((σ iMO 29) + 1)) iMO 27)).toNatClampNeg) (up σ iMO 29 ((σ iMO 29) + 1))) iMO 28) - 1)) iMO 27 ((((up (f_MO_step ((up σ iMO 29 ((σ iMO 29) + 1)) i_owner (((up σ iMO 29 ((σ iMO 29) + 1)) iMO 27)).toNatClampNeg) (up σ iMO 29 ((σ iMO 29) + 1))) iMO 28 (((f_MO_step ((up σ iMO 29 ((σ iMO 29) + 1)) i_owner (((up σ iMO 29 ((σ iMO 29) + 1)) iMO 27)).toNatClampNeg) (up σ iMO 29 ((σ iMO 29) + 1))) iMO 28) - 1)) iMO 27) + 1) - (((up (f_MO_step ((up σ iMO 29 ((σ iMO 29) + 1)) i_owner (((up σ iMO 29 ((σ iMO 29) + 1)) iMO 27)).toNatClampNeg) (up σ iMO 29 ((σ iMO 29) + 1))) iMO 28 (((f_MO_step ((up σ iMO 29 ((σ iMO 29) + 1)) i_owner (((up σ iMO 29 ((σ iMO 29) + 1)) iMO 27)).toNatClampNeg) (up σ iMO 29 ((σ iMO 29) + 1))) iMO 28) - 1)) iMO 27) + 1) / ((up (f_MO_step ((up σ iMO 29 ((σ iMO 29) + 1)) i_owner (((up σ iMO 29 ((σ iMO 29) + 1)) iMO 27)).toNatClampNeg) (up σ iMO 29 ((σ iMO 29) + 1))) iMO 28 (((f_MO_step ((up σ iMO 29 ((σ iMO 29) + 1)) i_owner (((up σ iMO 29 ((σ iMO 29) + 1)) iMO 27)).toNatClampNeg) (up σ iMO 29 ((σ iMO 29) + 1))) iMO 28) - 1)) iMO 26) * ((up (f_MO_step ((up σ iMO 29 ((σ iMO 29) + 1)) i_owner (((up σ iMO 29 ((σ iMO 29) + 1)) iMO 27)).toNatClampNeg) (up σ iMO 29 ((σ iMO 29) + 1))) iMO 28 (((f_MO_step ((up σ iMO 29 ((σ iMO 29) + 1)) i_owner (((up σ iMO 29 ((σ iMO 29) + 1)) iMO 27)).toNatClampNeg) (up σ iMO 29 ((σ iMO 29) + 1))) iMO 28) - 1)) iMO 26))) iMO 28 ((up (up (f_MO_step ((up σ iMO 29 ((σ iMO 29) + 1)) i_owner (((up σ iMO 29 ((σ iMO 29) + 1)) iMO 27)).toNatClampNeg) (up σ iMO 29 ((σ iMO 29) + 1))) iMO 28 (((f_MO_step ((up σ iMO 29 ((σ iMO 29) + 1)) i_owner (((up σ iMO 29 ((σ iMO 29) + 1)) iMO 27)).toNatClampNeg) (up σ iMO 29 ((σ iMO 29) + 1))) iMO 28) - 1)) iMO 27 ((((up (f_MO_step ((up σ iMO 29 ((σ iMO 29) + 1)) i_owner (((up σ iMO 29 ((σ iMO 29) + 1)) iMO 27)).toNatClampNeg) (up σ iMO 29 ((σ iMO 29) + 1))) iMO 28 (((f_MO_step ((up σ iMO 29 ((σ iMO 29) + 1)) i_owner (((up σ iMO 29 ((σ iMO 29) + 1)) iMO 27)).toNatClampNeg) (up σ iMO 29 ((σ iMO 29) + 1))) iMO 28) - 1)) iMO 27) + 1) - (((up (f_MO_step ((up σ iMO 29 ((σ iMO 29) + 1)) i_owner (((up σ iMO 29 ((σ iMO 29) + 1)) iMO 27)).toNatClampNeg) (up σ iMO 29 ((σ iMO 29) + 1))) iMO 28 (((f_MO_step ((up σ iMO 29 ((σ iMO 29) + 1)) i_owner (((up σ iMO 29 ((σ iMO 29) + 1)) iMO 27)).toNatClampNeg) (up σ iMO 29 ((σ iMO 29) + 1))) iMO 28) - 1)) iMO 27) + 1) / ((up (f_MO_step ((up σ iMO 29 ((σ iMO 29) + 1)) i_owner (((up σ iMO 29 ((σ iMO 29) + 1)) iMO 27)).toNatClampNeg) (up σ iMO 29 ((σ iMO 29) + 1))) iMO 28 (((f_MO_step ((up σ iMO 29 ((σ iMO 29) + 1)) i_owner (((up σ iMO 29 ((σ iMO 29) + 1)) iMO 27)).toNatClampNeg) (up σ iMO 29 ((σ iMO 29) + 1))) iMO 28) - 1)) iMO 26) * ((up (f_MO_step ((up σ iMO 29 ((σ iMO 29) + 1)) i_owner (((up σ iMO 29 ((σ iMO 29) + 1)) iMO 27)).toNatClampNeg) (up σ iMO 29 ((σ iMO 29) + 1))) iMO 28 (((f_MO_step ((up σ iMO 29 ((σ iMO 29) + 1)) i_owner (((up σ iMO 29 ((σ iMO 29) + 1)) iMO 27)).toNatClampNeg) (up σ iMO 29 ((σ iMO 29) + 1))) iMO 28) - 1)) iMO 26))) i_length (((up (up (f_MO_step ((up σ iMO 29 ((σ iMO 29) + 1)) i_owner (((up σ iMO 29 ((σ iMO 29) + 1)) iMO 27)).toNatClampNeg) (up σ iMO 29 ((σ iMO 29) + 1))) iMO 28 (((f_MO_step ((up σ iMO 29 ((σ iMO 29) + 1)) i_owner (((up σ iMO 29 ((σ iMO 29) + 1)) iMO 27)).toNatClampNeg) (up σ iMO 29 ((σ iMO 29) + 1))) iMO 28) - 1)) iMO 27 ((((up (f_MO_step ((up σ iMO 29 ((σ iMO 29) + 1)) i_owner (((up σ iMO 29 ((σ iMO 29) + 1)) iMO 27)).toNatClampNeg) (up σ iMO 29 ((σ iMO 29) + 1))) iMO 28 (((f_MO_step ((up σ iMO 29 ((σ iMO 29) + 1)) i_owner (((up σ iMO 29 ((σ iMO 29) + 1)) iMO 27)).toNatClampNeg) (up σ iMO 29 ((σ iMO 29) + 1))) iMO 28) - 1)) iMO 27) + 1) - (((up (f_MO_step ((up σ iMO 29 ((σ iMO 29) + 1)) i_owner (((up σ iMO 29 ((σ iMO 29) + 1)) iMO 27)).toNatClampNeg) (up σ iMO 29 ((σ iMO 29) + 1))) iMO 28 (((f_MO_step ((up σ iMO 29 ((σ iMO 29) + 1)) i_owner (((up σ iMO 29 ((σ iMO 29) + 1)) iMO 27)).toNatClampNeg) (up σ iMO 29 ((σ iMO 29) + 1))) iMO 28) - 1)) iMO 27) + 1) / ((up (f_MO_step ((up σ iMO 29 ((σ iMO 29) + 1)) i_owner (((up σ iMO 29 ((σ iMO 29) + 1)) iMO 27)).toNatClampNeg) (up σ iMO 29 ((σ iMO 29) + 1))) iMO 28 (((f_MO_step ((up σ iMO 29 ((σ iMO 29) + 1)) i_owner (((up σ iMO 29 ((σ iMO 29) + 1)) iMO 27)).toNatClampNeg) (up σ iMO 29 ((σ iMO 29) + 1))) iMO 28) - 1)) iMO 26) * ((up (f_MO_step ((up σ iMO 29 ((σ iMO 29) + 1)) i_owner (((up σ iMO 29 ((σ iMO 29) + 1)) iMO 27)).toNatClampNeg) (up σ iMO 29 ((σ iMO 29) + 1))) iMO 28 (((f_MO_step ((up σ iMO 29 ((σ iMO 29) + 1)) i_owner (((up σ iMO 29 ((σ iMO 29) + 1)) iMO 27)).toNatClampNeg) (up σ iMO 29 ((σ iMO 29) + 1))) iMO 28) - 1)) iMO 26))) iMO 27)).toNatClampNeg)) iMO 25 0) iMO 31 (((up (up (up (up (f_MO_step ((up σ iMO 29 ((σ iMO 29) + 1)) i_owner (((up σ iMO 29 ((σ iMO 29) + 1)) iMO 27)).toNatClampNeg) (up σ iMO 29 ((σ iMO 29) + 1))) iMO 28 (((f_MO_step ((up σ iMO 29 ((σ iMO 29) + 1)) i_owner (((up σ iMO 29 ((σ iMO 29) + 1)) iMO 27)).toNatClampNeg) (up σ iMO 29 ((σ iMO 29) + 1))) iMO 28) - 1)) iMO 27 ((((up (f_MO_step ((up σ iMO 29 ((σ iMO 29) + 1)) i_owner (((up σ iMO 29 ((σ iMO 29) + 1)) iMO 27)).toNatClampNeg) (up σ iMO 29 ((σ iMO 29) + 1))) iMO 28 (((f_MO_step ((up σ iMO 29 ((σ iMO 29) + 1)) i_owner (((up σ iMO 29 ((σ iMO 29) + 1)) iMO 27)).toNatClampNeg) (up σ iMO 29 ((σ iMO 29) + 1))) iMO 28) - 1)) iMO 27) + 1) - (((up (f_MO_step ((up σ iMO 29 ((σ iMO 29) + 1)) i_owner (((up σ iMO 29 ((σ iMO 29) + 1)) iMO 27)).toNatClampNeg) (up σ iMO 29 ((σ iMO 29) + 1))) iMO 28 (((f_MO_step ((up σ iMO 29 ((σ iMO 29) + 1)) i_owner (((up σ iMO 29 ((σ iMO 29) + 1)) iMO 27)).toNatClampNeg) (up σ iMO 29 ((σ iMO 29) + 1))) iMO 28) - 1)) iMO 27) + 1) / ((up (f_MO_step ((up σ iMO 29 ((σ iMO 29) + 1)) i_owner (((up σ iMO 29 ((σ iMO 29) + 1)) iMO 27)).toNatClampNeg) (up σ iMO 29 ((σ iMO 29) + 1))) iMO 28 (((f_MO_step ((up σ iMO 29 ((σ iMO 29) + 1)) i_owner (((up σ iMO 29 ((σ iMO 29) + 1)) iMO 27)).toNatClampNeg) (up σ iMO 29 ((σ iMO 29) + 1))) iMO 28) - 1)) iMO 26) * ((up (f_MO_step ((up σ iMO 29 ((σ iMO 29) + 1)) i_owner (((up σ iMO 29 ((σ iMO 29) + 1)) iMO 27)).toNatClampNeg) (up σ iMO 29 ((σ iMO 29) + 1))) iMO 28 (((f_MO_step ((up σ iMO 29 ((σ iMO 29) + 1)) i_owner (((up σ iMO 29 ((σ iMO 29) + 1)) iMO 27)).toNatClampNeg) (up σ iMO 29 ((σ iMO 29) + 1))) iMO 28) - 1)) iMO 26))) iMO 28 ((up (up (f_MO_step ((up σ iMO 29 ((σ iMO 29) + 1)) i_owner (((up σ iMO 29 ((σ iMO 29) + 1)) iMO 27)).toNatClampNeg) (up σ iMO 29 ((σ iMO 29) + 1))) iMO 28 (((f_MO_step ((up σ iMO 29 ((σ iMO 29) + 1)) i_owner (((up σ iMO 29 ((σ iMO 29) + 1)) iMO 27)).toNatClampNeg) (up σ iMO 29 ((σ iMO 29) + 1))) iMO 28) - 1)) iMO 27 ((((up (f_MO_step ((up σ iMO 29 ((σ iMO 29) + 1)) i_owner (((up σ iMO 29 ((σ iMO 29) + 1)) iMO 27)).toNatClampNeg) (up σ iMO 29 ((σ iMO 29) + 1))) iMO 28 (((f_MO_step ((up σ iMO 29 ((σ iMO 29) + 1)) i_owner (((up σ iMO 29 ((σ iMO 29) + 1)) iMO 27)).toNatClampNeg) (up σ iMO 29 ((σ iMO 29) + 1))) iMO 28) - 1)) iMO 27) + 1) - (((up (f_MO_step ((up σ iMO 29 ((σ iMO 29) + 1)) i_owner (((up σ iMO 29 ((σ iMO 29) + 1)) iMO 27)).toNatClampNeg) (up σ iMO 29 ((σ iMO 29) + 1))) iMO 28 (((f_MO_step ((up σ iMO 29 ((σ iMO 29) + 1)) i_owner (((up σ iMO 29 ((σ iMO 29) + 1)) iMO 27)).toNatClampNeg) (up σ iMO 29 ((σ iMO 29) + 1))) iMO 28) - 1)) iMO 27) + 1) / ((up (f_MO_step ((up σ iMO 29 ((σ iMO 29) + 1)) i_owner (((up σ iMO 29 ((σ iMO 29) + 1)) iMO 27)).toNatClampNeg) (up σ iMO 29 ((σ iMO 29) + 1))) iMO 28 (((f_MO_step ((up σ iMO 29 ((σ iMO 29) + 1)) i_owner (((up σ iMO 29 ((σ iMO 29) + 1)) iMO 27)).toNatClampNeg) (up σ iMO 29 ((σ iMO 29) + 1))) iMO 28) - 1)) iMO 26) * ((up (f_MO_step ((up σ iMO 29 ((σ iMO 29) + 1)) i_owner (((up σ iMO 29 ((σ iMO 29) + 1)) iMO 27)).toNatClampNeg) (up σ iMO 29 ((σ iMO 29) + 1))) iMO 28 (((f_MO_step ((up σ iMO 29 ((σ iMO 29) + 1)) i_owner (((up σ iMO 29 ((σ iMO 29) + 1)) iMO 27)).toNatClampNeg) (up σ iMO 29 ((σ iMO 29) + 1))) iMO 28) - 1)) iMO 26))) i_length (((up (up (f_MO_step ((up σ iMO 29 ((σ iMO 29) + 1)) i_owner (((up σ iMO 29 ((σ iMO 29) + 1)) iMO 27)).toNatClampNeg) (up σ iMO 29 ((σ iMO 29) + 1))) iMO 28 (((f_MO_step ((up σ iMO 29 ((σ iMO 29) + 1)) i_owner (((up σ iMO 29 ((σ iMO 29) + 1)) iMO 27)).toNatClampNeg) (up σ iMO 29 ((σ iMO 29) + 1))) iMO 28) - 1)) iMO 27 ((((up (f_MO_step ((up σ iMO 29 ((σ iMO 29) + 1)) i_owner (((up σ iMO 29 ((σ iMO 29) + 1)) iMO 27)).toNatClampNeg) (up σ iMO 29 ((σ iMO 29) + 1))) iMO 28 (((f_MO_step ((up σ iMO 29 ((σ iMO 29) + 1)) i_owner (((up σ iMO 29 ((σ iMO 29) + 1)) iMO 27)).toNatClampNeg) (up σ iMO 29 ((σ iMO 29) + 1))) iMO 28) - 1)) iMO 27) + 1) - (((up (f_MO_step ((up σ iMO 29 ((σ iMO 29) + 1)) i_owner (((up σ iMO 29 ((σ iMO 29) + 1)) iMO 27)).toNatClampNeg) (up σ iMO 29 ((σ iMO 29) + 1))) iMO 28 (((f_MO_step ((up σ iMO 29 ((σ iMO 29) + 1)) i_owner (((up σ iMO 29 ((σ iMO 29) + 1)) iMO 27)).toNatClampNeg) (up σ iMO 29 ((σ iMO 29) + 1))) iMO 28) - 1)) iMO 27) + 1) / ((up (f_MO_step ((up σ iMO 29 ((σ iMO 29) + 1)) i_owner (((up σ iMO 29 ((σ iMO 29) + 1)) iMO 27)).toNatClampNeg) (up σ iMO 29 ((σ iMO 29) + 1))) iMO 28 (((f_MO_step ((up σ iMO 29 ((σ iMO 29) + 1)) i_owner (((up σ iMO 29 ((σ iMO 29) + 1)) iMO 27)).toNatClampNeg) (up σ iMO 29 ((σ iMO 29) + 1))) iMO 28) - 1)) iMO 26) * ((up (f_MO_step ((up σ iMO 29 ((σ iMO 29) + 1)) i_owner (((up σ iMO 29 ((σ iMO 29) + 1)) iMO 27)).toNatClampNeg) (up σ iMO 29 ((σ iMO 29) + 1))) iMO 28 (((f_MO_step ((up σ iMO 29 ((σ iMO 29) + 1)) i_owner (((up σ iMO 29 ((σ iMO 29) + 1)) iMO 27)).toNatClampNeg) (up σ iMO 29 ((σ iMO 29) + 1))) iMO 28) - 1)) iMO 26))) iMO 27)).toNatClampNeg)) iMO 25 0) iMO 31) + 1))) else (lp_MO_run_36 xa k9 (m2 + 1) (i3 + 1) (up (f_MO_step ((up σ iMO 29 ((σ iMO 29) + 1)) i_owner (((up σ iMO 29 ((σ iMO 29) + 1)) iMO 27)).toNatClampNeg) (up σ iMO 29 ((σ iMO 29) + 1))) iMO 28 (((f_MO_step ((up σ iMO 29 ((σ iMO 29) + 1)) i_owner (((up σ iMO 29 ((σ iMO 29) + 1)) iMO 27)).toNatClampNeg) (up σ iMO 29 ((σ iMO 29) + 1))) iMO 28) - 1)))) else (if ((up (up σ iMO 29 ((σ iMO 29) + 1)) iMO 28 (((up σ iMO 29 ((σ iMO 29) + 1)) iMO 28) - 1)) iMO 28) = 0 then (lp_MO_run_36 xa k9 m2 (i3 + 1) (up (up (up (up (up (up σ iMO 29 ((σ iMO 29) + 1)) iMO 28 (((up σ iMO 29 ((σ iMO 29) + 1)) iMO 28) - 1)) iMO 27 ((((up (up σ iMO 29 ((σ iMO 29) + 1)) iMO 28 (((up σ iMO 29 ((σ iMO 29) + 1)) iMO 28) - 1)) iMO 27) + 1) - (((up (up σ iMO 29 ((σ iMO 29) + 1)) iMO 28 (((up σ iMO 29 ((σ iMO 29) + 1)) iMO 28) - 1)) iMO 27) + 1) / ((up (up σ iMO 29 ((σ iMO 29) + 1)) iMO 28 (((up σ iMO 29 ((σ iMO 29) + 1)) iMO 28) - 1)) iMO 26) * ((up (up σ iMO 29 ((σ iMO 29) + 1)) iMO 28 (((up σ iMO 29 ((σ iMO 29) + 1)) iMO 28) - 1)) iMO 26))) iMO 28 ((up (up (up σ iMO 29 ((σ iMO 29) + 1)) iMO 28 (((up σ iMO 29 ((σ iMO 29) + 1)) iMO 28) - 1)) iMO 27 ((((up (up σ iMO 29 ((σ iMO 29) + 1)) iMO 28 (((up σ iMO 29 ((σ iMO 29) + 1)) iMO 28) - 1)) iMO 27) + 1) - (((up (up σ iMO 29 ((σ iMO 29) + 1)) iMO 28 (((up σ iMO 29 ((σ iMO 29) + 1)) iMO 28) - 1)) iMO 27) + 1) / ((up (up σ iMO 29 ((σ iMO 29) + 1)) iMO 28 (((up σ iMO 29 ((σ iMO 29) + 1)) iMO 28) - 1)) iMO 26) * ((up (up σ iMO 29 ((σ iMO 29) + 1)) iMO 28 (((up σ iMO 29 ((σ iMO 29) + 1)) iMO 28) - 1)) iMO 26))) i_length (((up (up (up σ iMO 29 ((σ iMO 29) + 1)) iMO 28 (((up σ iMO 29 ((σ iMO 29) + 1)) iMO 28) - 1)) iMO 27 ((((up (up σ iMO 29 ((σ iMO 29) + 1)) iMO 28 (((up σ iMO 29 ((σ iMO 29) + 1)) iMO 28) - 1)) iMO 27) + 1) - (((up (up σ iMO 29 ((σ iMO 29) + 1)) iMO 28 (((up σ iMO 29 ((σ iMO 29) + 1)) iMO 28) - 1)) iMO 27) + 1) / ((up (up σ iMO 29 ((σ iMO 29) + 1)) iMO 28 (((up σ iMO 29 ((σ iMO 29) + 1)) iMO 28) - 1)) iMO 26) * ((up (up σ iMO 29 ((σ iMO 29) + 1)) iMO 28 (((up σ iMO 29 ((σ iMO 29) + 1)) iMO 28) - 1)) iMO 26))) iMO 27)).toNatClampNeg)) iMO 25 0) iMO 31 (((up (up (up (up (up σ iMO 29 ((σ iMO 29) + 1)) iMO 28 (((up σ iMO 29 ((σ iMO 29) + 1)) iMO 28) - 1)) iMO 27 ((((up (up σ iMO 29 ((σ iMO 29) + 1)) iMO 28 (((up σ iMO 29 ((σ iMO 29) + 1)) iMO 28) - 1)) iMO 27) + 1) - (((up (up σ iMO 29 ((σ iMO 29) + 1)) iMO 28 (((up σ iMO 29 ((σ iMO 29) + 1)) iMO 28) - 1)) iMO 27) + 1) / ((up (up σ iMO 29 ((σ iMO 29) + 1)) iMO 28 (((up σ iMO 29 ((σ iMO 29) + 1)) iMO 28) - 1)) iMO 26) * ((up (up σ iMO 29 ((σ iMO 29) + 1)) iMO 28 (((up σ iMO 29 ((σ iMO 29) + 1)) iMO 28) - 1)) iMO 26))) iMO 28 ((up (up (up σ iMO 29 ((σ iMO 29) + 1)) iMO 28 (((up σ iMO 29 ((σ iMO 29) + 1)) iMO 28) - 1)) iMO 27 ((((up (up σ iMO 29 ((σ iMO 29) + 1)) iMO 28 (((up σ iMO 29 ((σ iMO 29) + 1)) iMO 28) - 1)) iMO 27) + 1) - (((up (up σ iMO 29 ((σ iMO 29) + 1)) iMO 28 (((up σ iMO 29 ((σ iMO 29) + 1)) iMO 28) - 1)) iMO 27) + 1) / ((up (up σ iMO 29 ((σ iMO 29) + 1)) iMO 28 (((up σ iMO 29 ((σ iMO 29) + 1)) iMO 28) - 1)) iMO 26) * ((up (up σ iMO 29 ((σ iMO 29) + 1)) iMO 28 (((up σ iMO 29 ((σ iMO 29) + 1)) iMO 28) - 1)) iMO 26))) i_length (((up (up (up σ iMO 29 ((σ iMO 29) + 1)) iMO 28 (((up σ iMO 29 ((σ iMO 29) + 1)) iMO 28) - 1)) iMO 27 ((((up (up σ iMO 29 ((σ iMO 29) + 1)) iMO 28 (((up σ iMO 29 ((σ iMO 29) + 1)) iMO 28) - 1)) iMO 27) + 1) - (((up (up σ iMO 29 ((σ iMO 29) + 1)) iMO 28 (((up σ iMO 29 ((σ iMO 29) + 1)) iMO 28) - 1)) iMO 27) + 1) / ((up (up σ iMO 29 ((σ iMO 29) + 1)) iMO 28 (((up σ iMO 29 ((σ iMO 29) + 1)) iMO 28) - 1)) iMO 26) * ((up (up σ iMO 29 ((σ iMO 29) + 1)) iMO 28 (((up σ iMO 29 ((σ iMO 29) + 1)) iMO 28) - 1)) iMO 26))) iMO 27)).toNatClampNeg)) iMO 25 0) iMO 31) + 1))) else (lp_MO_run_36 xa k9 m2 (i3 + 1) (up (up σ iMO 29 ((σ iMO 29) + 1)) iMO 28 (((up σ iMO 29 ((σ iMO 29) + 1)) iMO 28) - 1)))))) else (m2, σ)))
set_option maxHeartbeats 4000000 in
set_option maxRecDepth 100000 in
theorem lc_MO_run_36 (xa : Int32) (t9 : Int32) (b9 : Int32) (hb : t9 = 0 → (1 ≤ xa.toInt ∧ xa.toInt ≤ 400) ∧ ¬ b9 = 0) {p9 : Program} {e : Env} {s : State} {m : MethodId} {args : Array Value} {below : List Frame} {meth : Method} {c : Code} {A : Nat → Prop} {Q : State → Prop} (X : Cx p9 s m args meth c D (tyL cA) A cX8_run 5 yX8_run.cls) : ∀ (k9 : Nat) (m2 : Int32) (i3 : Int32) (σ : St), (hI : Ir t9 b9 σ) → (hi : 0 ≤ i3.toInt ∧ i3.toInt ≤ 400) → (400 - i3.toInt < (k9 : Int)) → (∀ (pc : Nat) (lv : List (Nat × Value)), decode cX8_run pc = .ok (.ireturn, 1) → Vz p9 l e (Rz 4) s m args below meth c D A 5 rh (rcW rh cA) NW 0 0 Q pc lv [.int (lp_MO_run_36 xa k9 m2 i3 σ).1] (lp_MO_run_36 xa k9 m2 i3 σ).2) → Vz p9 l e (Rz 4) s m args below meth c D A 5 rh (rcW rh cA) NW 0 0 Q 36 [(0, .ref (rh iMO)), (1, .int xa), (2, .int m2), (3, .int i3)] [] σ := by
  intro k9
  induction k9 with
  | zero =>
    intro m2 i3 σ hI hi hmu hend
    exact absurd hmu (by omega)
  | succ k9 ih =>
    intro m2 i3 σ hI hi hmu hend
    refine v_iload_n X 3 dX8_run_36 rfl rfl ?_
    refine v_iload_n X 1 dX8_run_37 rfl rfl ?_
    refine v_icmp_ge X 161 dX8_run_38 (by decide) (fun h38 => ?_) (fun h38 => ?_)
    ·
      refine v_iload_n X 2 dX8_run_161 rfl rfl ?_
      have e9 : lp_MO_run_36 xa (k9 + 1) m2 i3 σ = (m2, σ) := by simp only [lp_MO_run_36, if_pos h38]
      exact v_endI hend dX8_run_162 (by rw [e9]) (by rw [e9])
    ·
      refine v_aload_n X 0 dX8_run_41 rfl rfl ?_
      refine v_getI (i := iMO) (k := 33) X (lt_MO ) (sh_MO ) rfl in_MO (by decide) wf_MO_84 rfl (fun _ => rfl) dX8_run_42 ?_
      refine v_if_ne X 161 dX8_run_45 (by decide) (fun h45 => ?_) (fun h45 => ?_)
      ·
        refine v_iload_n X 2 dX8_run_161 rfl rfl ?_
        have e9 : lp_MO_run_36 xa (k9 + 1) m2 i3 σ = (m2, σ) := by simp only [lp_MO_run_36, if_neg h38, if_neg h45]
        exact v_endI hend dX8_run_162 (by rw [e9]) (by rw [e9])
      ·
        refine v_aload_n X 0 dX8_run_48 rfl rfl ?_
        refine v_dup X dX8_run_49 rfl ?_
        refine v_getI (i := iMO) (k := 29) X (lt_MO ) (sh_MO ) rfl in_MO (by decide) wf_MO_109 rfl (fun _ => rfl) dX8_run_50 ?_
        refine v_iconst (v := 1) X dX8_run_53 (by decide) ?_
        refine v_iadd X dX8_run_54 ?_
        refine v_put (i := iMO) (k := 29) (x := ((σ iMO 29) + 1)) (ty := .int) X (lt_MO ) (sh_MO ) rfl in_MO (by decide) tyX8 tyX8_ok nX8 wf_MO_109 rfl rfl rfl rfl rfl (fun _ => Nat.le_of_ble_eq_true rfl) (fun _ _ => rfl) dX8_run_55 ?_
        generalize hg55 : (up σ iMO 29 ((σ iMO 29) + 1)) = g55
        have hI55 : Ir t9 b9 g55 := by rw [← hg55]; exact (Ir.upMO hI (by decide))
        refine v_aload_n X 0 dX8_run_58 rfl rfl ?_
        refine v_getR (j := i_owner) (i := iMO) (k := 14) X (lt_MO ) (sh_MO ) rfl in_MO (by decide) wf_MO_53 rfl (fun _ => rfl) dX8_run_59 ?_
        refine v_aload_n X 0 dX8_run_62 rfl rfl ?_
        refine v_getI (i := iMO) (k := 27) X (lt_MO ) (sh_MO ) rfl in_MO (by decide) wf_MO_112 rfl (fun _ => rfl) dX8_run_63 ?_
        have hv66 : vp_in (g55 iMO 27) 6 := (vin_mk hI55.1.2.2.1.1 hI55.1.2.2.1.2)
        refine v_iald (i := i_owner) (t0 := 0) X (lt_m_owner ) (sh_m_owner ) rfl hv66 dX8_run_66 ?_
        refine v_istore (lv' := [(4, .int (g55 i_owner ((g55 iMO 27)).toNatClampNeg)), (0, .ref (rh iMO)), (1, .int xa), (2, .int m2), (3, .int i3)]) X dX8_run_67 (by decide) rfl ?_
        refine v_aload_n X 1 dX8_run_69 rfl rfl ?_
        refine v_getR (j := i_ready) (i := iMO) (k := 12) X (lt_MO ) (sh_MO ) rfl in_MO (by decide) wf_MO_46 rfl (fun _ => rfl) dX8_run_70 ?_
        refine v_iload X 0 dX8_run_73 rfl ?_
        have hv75 : vp_in (g55 i_owner ((g55 iMO 27)).toNatClampNeg) 4 := (ow_in hI55.1)
        refine v_zald (i := i_ready) (t0 := 5) X (lt_m_ready ) (sh_m_ready ) rfl hv75 dX8_run_75 ?_
        refine v_if_eq X 95 dX8_run_76 (by decide) (fun h76 => ?_) (fun h76 => ?_)
        ·
          refine v_aload_n X 1 dX8_run_95 rfl rfl ?_
          refine v_dup X dX8_run_96 rfl ?_
          refine v_getI (i := iMO) (k := 28) X (lt_MO ) (sh_MO ) rfl in_MO (by decide) wf_MO_115 rfl (fun _ => rfl) dX8_run_97 ?_
          refine v_iconst (v := 1) X dX8_run_100 (by decide) ?_
          refine v_isub X dX8_run_101 ?_
          refine v_put (i := iMO) (k := 28) (x := ((g55 iMO 28) - 1)) (ty := .int) X (lt_MO ) (sh_MO ) rfl in_MO (by decide) tyX8 tyX8_ok nX8 wf_MO_115 rfl rfl rfl rfl rfl (fun _ => Nat.le_of_ble_eq_true rfl) (fun _ _ => rfl) dX8_run_102 ?_
          generalize hg102 : (up g55 iMO 28 ((g55 iMO 28) - 1)) = g102
          have hI102 : Ir t9 b9 g102 := by rw [← hg102]; exact (Ir.upMO hI55 (by decide))
          refine v_aload_n X 1 dX8_run_105 rfl rfl ?_
          refine v_getI (i := iMO) (k := 28) X (lt_MO ) (sh_MO ) rfl in_MO (by decide) wf_MO_115 rfl (fun _ => rfl) dX8_run_106 ?_
          refine v_if_ne X 155 dX8_run_109 (by decide) (fun h109 => ?_) (fun h109 => ?_)
          ·
            refine v_iinc (v := (i3 + 1)) (lv' := [(3, .int (i3 + 1)), (4, .int (g55 i_owner ((g55 iMO 27)).toNatClampNeg)), (0, .ref (rh iMO)), (1, .int xa), (2, .int m2)]) X 4 dX8_run_155 rfl rfl (by decide) rfl ?_
            refine v_goto (tgt := 36) X dX8_run_158 (by decide) ?_
            have e9 : lp_MO_run_36 xa (k9 + 1) m2 i3 σ = lp_MO_run_36 xa k9 m2 (i3 + 1) g102 := by subst hg55; subst hg102; simp only [lp_MO_run_36, if_neg h38, if_pos h45, if_pos h76, if_neg h109]
            rw [e9] at hend
            refine v_lv (lv' := [(0, .ref (rh iMO)), (1, .int xa), (2, .int m2), (3, .int (i3 + 1))]) [2, 3, 4, 0] rfl ?_
            exact ih m2 (i3 + 1) g102 hI102 ⟨by have u9 := i_succ h38; omega, by have u9 := i_succ h38; have u8 := h38; rw [ile] at u8; have u7 := (hb (hI.2.1.symm.trans h45)).1.2; omega⟩ (by have u9 := i_succ h38; omega) hend
          ·
            refine v_aload_n X 1 dX8_run_112 rfl rfl ?_
            refine v_aload_n X 1 dX8_run_113 rfl rfl ?_
            refine v_getI (i := iMO) (k := 27) X (lt_MO ) (sh_MO ) rfl in_MO (by decide) wf_MO_112 rfl (fun _ => rfl) dX8_run_114 ?_
            refine v_iconst (v := 1) X dX8_run_117 (by decide) ?_
            refine v_iadd X dX8_run_118 ?_
            refine v_aload_n X 1 dX8_run_119 rfl rfl ?_
            refine v_getI (i := iMO) (k := 26) X (lt_MO ) (sh_MO ) rfl in_MO (by decide) wf_MO_100 rfl (fun _ => rfl) dX8_run_120 ?_
            refine v_irem X (w_ne (hI102.1.2.2.2.2 (by rw [hI102.2.2]; exact (hb (hI.2.1.symm.trans h45)).2))) dX8_run_123 ?_
            refine v_put (i := iMO) (k := 27) (x := (((g102 iMO 27) + 1) - ((g102 iMO 27) + 1) / (g102 iMO 26) * (g102 iMO 26))) (ty := .int) X (lt_MO ) (sh_MO ) rfl in_MO (by decide) tyX8 tyX8_ok nX8 wf_MO_112 rfl rfl rfl rfl rfl (fun _ => Nat.le_of_ble_eq_true rfl) (fun _ _ => rfl) dX8_run_124 ?_
            generalize hg124 : (up g102 iMO 27 (((g102 iMO 27) + 1) - ((g102 iMO 27) + 1) / (g102 iMO 26) * (g102 iMO 26))) = g124
            have hI124 : Ir t9 b9 g124 := by rw [← hg124]; exact (Ir.at hI102 (rem_in hI102.1 (hI102.1.2.2.2.2 (by rw [hI102.2.2]; exact (hb (hI.2.1.symm.trans h45)).2))))
            refine v_aload_n X 1 dX8_run_127 rfl rfl ?_
            refine v_aload_n X 1 dX8_run_128 rfl rfl ?_
            refine v_getR (j := i_length) (i := iMO) (k := 15) X (lt_MO ) (sh_MO ) rfl in_MO (by decide) wf_MO_56 rfl (fun _ => rfl) dX8_run_129 ?_
            refine v_aload_n X 1 dX8_run_132 rfl rfl ?_
            refine v_getI (i := iMO) (k := 27) X (lt_MO ) (sh_MO ) rfl in_MO (by decide) wf_MO_112 rfl (fun _ => rfl) dX8_run_133 ?_
            have hv136 : vp_in (g124 iMO 27) 6 := (vin_mk hI124.1.2.2.1.1 hI124.1.2.2.1.2)
            refine v_iald (i := i_length) (t0 := 0) X (lt_m_length ) (sh_m_length ) rfl hv136 dX8_run_136 ?_
            refine v_put (i := iMO) (k := 28) (x := (g124 i_length ((g124 iMO 27)).toNatClampNeg)) (ty := .int) X (lt_MO ) (sh_MO ) rfl in_MO (by decide) tyX8 tyX8_ok nX8 wf_MO_115 rfl rfl rfl rfl rfl (fun _ => Nat.le_of_ble_eq_true rfl) (fun _ _ => rfl) dX8_run_137 ?_
            generalize hg137 : (up g124 iMO 28 (g124 i_length ((g124 iMO 27)).toNatClampNeg)) = g137
            have hI137 : Ir t9 b9 g137 := by rw [← hg137]; exact (Ir.upMO hI124 (by decide))
            refine v_aload_n X 1 dX8_run_140 rfl rfl ?_
            refine v_iconst (v := 0) X dX8_run_141 (by decide) ?_
            refine v_put (i := iMO) (k := 25) (x := 0) (ty := .boolean) X (lt_MO ) (sh_MO ) rfl in_MO (by decide) tyX8 tyX8_ok nX8 wf_MO_118 rfl rfl rfl (zN (Or.inl rfl)) (zF (Or.inl rfl)) (fun _ => Nat.le_of_ble_eq_true rfl) (fun _ _ => rfl) dX8_run_142 ?_
            generalize hg142 : (up g137 iMO 25 0) = g142
            have hI142 : Ir t9 b9 g142 := by rw [← hg142]; exact (Ir.upMO hI137 (by decide))
            refine v_aload_n X 1 dX8_run_145 rfl rfl ?_
            refine v_dup X dX8_run_146 rfl ?_
            refine v_getI (i := iMO) (k := 31) X (lt_MO ) (sh_MO ) rfl in_MO (by decide) wf_MO_121 rfl (fun _ => rfl) dX8_run_147 ?_
            refine v_iconst (v := 1) X dX8_run_150 (by decide) ?_
            refine v_iadd X dX8_run_151 ?_
            refine v_put (i := iMO) (k := 31) (x := ((g142 iMO 31) + 1)) (ty := .int) X (lt_MO ) (sh_MO ) rfl in_MO (by decide) tyX8 tyX8_ok nX8 wf_MO_121 rfl rfl rfl rfl rfl (fun _ => Nat.le_of_ble_eq_true rfl) (fun _ _ => rfl) dX8_run_152 ?_
            generalize hg152 : (up g142 iMO 31 ((g142 iMO 31) + 1)) = g152
            have hI152 : Ir t9 b9 g152 := by rw [← hg152]; exact (Ir.upMO hI142 (by decide))
            refine v_iinc (v := (i3 + 1)) (lv' := [(3, .int (i3 + 1)), (4, .int (g55 i_owner ((g55 iMO 27)).toNatClampNeg)), (0, .ref (rh iMO)), (1, .int xa), (2, .int m2)]) X 4 dX8_run_155 rfl rfl (by decide) rfl ?_
            refine v_goto (tgt := 36) X dX8_run_158 (by decide) ?_
            have e9 : lp_MO_run_36 xa (k9 + 1) m2 i3 σ = lp_MO_run_36 xa k9 m2 (i3 + 1) g152 := by subst hg55; subst hg102; subst hg124; subst hg137; subst hg142; subst hg152; simp only [lp_MO_run_36, if_neg h38, if_pos h45, if_pos h76, if_pos h109]
            rw [e9] at hend
            refine v_lv (lv' := [(0, .ref (rh iMO)), (1, .int xa), (2, .int m2), (3, .int (i3 + 1))]) [2, 3, 4, 0] rfl ?_
            exact ih m2 (i3 + 1) g152 hI152 ⟨by have u9 := i_succ h38; omega, by have u9 := i_succ h38; have u8 := h38; rw [ile] at u8; have u7 := (hb (hI.2.1.symm.trans h45)).1.2; omega⟩ (by have u9 := i_succ h38; omega) hend
        ·
          refine v_aload_n X 1 dX8_run_79 rfl rfl ?_
          refine v_getI (i := iMO) (k := 25) X (lt_MO ) (sh_MO ) rfl in_MO (by decide) wf_MO_118 rfl (fun _ => rfl) dX8_run_80 ?_
          refine v_if_ne X 95 dX8_run_83 (by decide) (fun h83 => ?_) (fun h83 => ?_)
          ·
            refine v_aload_n X 1 dX8_run_95 rfl rfl ?_
            refine v_dup X dX8_run_96 rfl ?_
            refine v_getI (i := iMO) (k := 28) X (lt_MO ) (sh_MO ) rfl in_MO (by decide) wf_MO_115 rfl (fun _ => rfl) dX8_run_97 ?_
            refine v_iconst (v := 1) X dX8_run_100 (by decide) ?_
            refine v_isub X dX8_run_101 ?_
            refine v_put (i := iMO) (k := 28) (x := ((g55 iMO 28) - 1)) (ty := .int) X (lt_MO ) (sh_MO ) rfl in_MO (by decide) tyX8 tyX8_ok nX8 wf_MO_115 rfl rfl rfl rfl rfl (fun _ => Nat.le_of_ble_eq_true rfl) (fun _ _ => rfl) dX8_run_102 ?_
            generalize hg102 : (up g55 iMO 28 ((g55 iMO 28) - 1)) = g102
            have hI102 : Ir t9 b9 g102 := by rw [← hg102]; exact (Ir.upMO hI55 (by decide))
            refine v_aload_n X 1 dX8_run_105 rfl rfl ?_
            refine v_getI (i := iMO) (k := 28) X (lt_MO ) (sh_MO ) rfl in_MO (by decide) wf_MO_115 rfl (fun _ => rfl) dX8_run_106 ?_
            refine v_if_ne X 155 dX8_run_109 (by decide) (fun h109 => ?_) (fun h109 => ?_)
            ·
              refine v_iinc (v := (i3 + 1)) (lv' := [(3, .int (i3 + 1)), (4, .int (g55 i_owner ((g55 iMO 27)).toNatClampNeg)), (0, .ref (rh iMO)), (1, .int xa), (2, .int m2)]) X 4 dX8_run_155 rfl rfl (by decide) rfl ?_
              refine v_goto (tgt := 36) X dX8_run_158 (by decide) ?_
              have e9 : lp_MO_run_36 xa (k9 + 1) m2 i3 σ = lp_MO_run_36 xa k9 m2 (i3 + 1) g102 := by subst hg55; subst hg102; simp only [lp_MO_run_36, if_neg h38, if_pos h45, if_neg h76, if_neg h83, if_neg h109]
              rw [e9] at hend
              refine v_lv (lv' := [(0, .ref (rh iMO)), (1, .int xa), (2, .int m2), (3, .int (i3 + 1))]) [2, 3, 4, 0] rfl ?_
              exact ih m2 (i3 + 1) g102 hI102 ⟨by have u9 := i_succ h38; omega, by have u9 := i_succ h38; have u8 := h38; rw [ile] at u8; have u7 := (hb (hI.2.1.symm.trans h45)).1.2; omega⟩ (by have u9 := i_succ h38; omega) hend
            ·
              refine v_aload_n X 1 dX8_run_112 rfl rfl ?_
              refine v_aload_n X 1 dX8_run_113 rfl rfl ?_
              refine v_getI (i := iMO) (k := 27) X (lt_MO ) (sh_MO ) rfl in_MO (by decide) wf_MO_112 rfl (fun _ => rfl) dX8_run_114 ?_
              refine v_iconst (v := 1) X dX8_run_117 (by decide) ?_
              refine v_iadd X dX8_run_118 ?_
              refine v_aload_n X 1 dX8_run_119 rfl rfl ?_
              refine v_getI (i := iMO) (k := 26) X (lt_MO ) (sh_MO ) rfl in_MO (by decide) wf_MO_100 rfl (fun _ => rfl) dX8_run_120 ?_
              refine v_irem X (w_ne (hI102.1.2.2.2.2 (by rw [hI102.2.2]; exact (hb (hI.2.1.symm.trans h45)).2))) dX8_run_123 ?_
              refine v_put (i := iMO) (k := 27) (x := (((g102 iMO 27) + 1) - ((g102 iMO 27) + 1) / (g102 iMO 26) * (g102 iMO 26))) (ty := .int) X (lt_MO ) (sh_MO ) rfl in_MO (by decide) tyX8 tyX8_ok nX8 wf_MO_112 rfl rfl rfl rfl rfl (fun _ => Nat.le_of_ble_eq_true rfl) (fun _ _ => rfl) dX8_run_124 ?_
              generalize hg124 : (up g102 iMO 27 (((g102 iMO 27) + 1) - ((g102 iMO 27) + 1) / (g102 iMO 26) * (g102 iMO 26))) = g124
              have hI124 : Ir t9 b9 g124 := by rw [← hg124]; exact (Ir.at hI102 (rem_in hI102.1 (hI102.1.2.2.2.2 (by rw [hI102.2.2]; exact (hb (hI.2.1.symm.trans h45)).2))))
              refine v_aload_n X 1 dX8_run_127 rfl rfl ?_
              refine v_aload_n X 1 dX8_run_128 rfl rfl ?_
              refine v_getR (j := i_length) (i := iMO) (k := 15) X (lt_MO ) (sh_MO ) rfl in_MO (by decide) wf_MO_56 rfl (fun _ => rfl) dX8_run_129 ?_
              refine v_aload_n X 1 dX8_run_132 rfl rfl ?_
              refine v_getI (i := iMO) (k := 27) X (lt_MO ) (sh_MO ) rfl in_MO (by decide) wf_MO_112 rfl (fun _ => rfl) dX8_run_133 ?_
              have hv136 : vp_in (g124 iMO 27) 6 := (vin_mk hI124.1.2.2.1.1 hI124.1.2.2.1.2)
              refine v_iald (i := i_length) (t0 := 0) X (lt_m_length ) (sh_m_length ) rfl hv136 dX8_run_136 ?_
              refine v_put (i := iMO) (k := 28) (x := (g124 i_length ((g124 iMO 27)).toNatClampNeg)) (ty := .int) X (lt_MO ) (sh_MO ) rfl in_MO (by decide) tyX8 tyX8_ok nX8 wf_MO_115 rfl rfl rfl rfl rfl (fun _ => Nat.le_of_ble_eq_true rfl) (fun _ _ => rfl) dX8_run_137 ?_
              generalize hg137 : (up g124 iMO 28 (g124 i_length ((g124 iMO 27)).toNatClampNeg)) = g137
              have hI137 : Ir t9 b9 g137 := by rw [← hg137]; exact (Ir.upMO hI124 (by decide))
              refine v_aload_n X 1 dX8_run_140 rfl rfl ?_
              refine v_iconst (v := 0) X dX8_run_141 (by decide) ?_
              refine v_put (i := iMO) (k := 25) (x := 0) (ty := .boolean) X (lt_MO ) (sh_MO ) rfl in_MO (by decide) tyX8 tyX8_ok nX8 wf_MO_118 rfl rfl rfl (zN (Or.inl rfl)) (zF (Or.inl rfl)) (fun _ => Nat.le_of_ble_eq_true rfl) (fun _ _ => rfl) dX8_run_142 ?_
              generalize hg142 : (up g137 iMO 25 0) = g142
              have hI142 : Ir t9 b9 g142 := by rw [← hg142]; exact (Ir.upMO hI137 (by decide))
              refine v_aload_n X 1 dX8_run_145 rfl rfl ?_
              refine v_dup X dX8_run_146 rfl ?_
              refine v_getI (i := iMO) (k := 31) X (lt_MO ) (sh_MO ) rfl in_MO (by decide) wf_MO_121 rfl (fun _ => rfl) dX8_run_147 ?_
              refine v_iconst (v := 1) X dX8_run_150 (by decide) ?_
              refine v_iadd X dX8_run_151 ?_
              refine v_put (i := iMO) (k := 31) (x := ((g142 iMO 31) + 1)) (ty := .int) X (lt_MO ) (sh_MO ) rfl in_MO (by decide) tyX8 tyX8_ok nX8 wf_MO_121 rfl rfl rfl rfl rfl (fun _ => Nat.le_of_ble_eq_true rfl) (fun _ _ => rfl) dX8_run_152 ?_
              generalize hg152 : (up g142 iMO 31 ((g142 iMO 31) + 1)) = g152
              have hI152 : Ir t9 b9 g152 := by rw [← hg152]; exact (Ir.upMO hI142 (by decide))
              refine v_iinc (v := (i3 + 1)) (lv' := [(3, .int (i3 + 1)), (4, .int (g55 i_owner ((g55 iMO 27)).toNatClampNeg)), (0, .ref (rh iMO)), (1, .int xa), (2, .int m2)]) X 4 dX8_run_155 rfl rfl (by decide) rfl ?_
              refine v_goto (tgt := 36) X dX8_run_158 (by decide) ?_
              have e9 : lp_MO_run_36 xa (k9 + 1) m2 i3 σ = lp_MO_run_36 xa k9 m2 (i3 + 1) g152 := by subst hg55; subst hg102; subst hg124; subst hg137; subst hg142; subst hg152; simp only [lp_MO_run_36, if_neg h38, if_pos h45, if_neg h76, if_neg h83, if_pos h109]
              rw [e9] at hend
              refine v_lv (lv' := [(0, .ref (rh iMO)), (1, .int xa), (2, .int m2), (3, .int (i3 + 1))]) [2, 3, 4, 0] rfl ?_
              exact ih m2 (i3 + 1) g152 hI152 ⟨by have u9 := i_succ h38; omega, by have u9 := i_succ h38; have u8 := h38; rw [ile] at u8; have u7 := (hb (hI.2.1.symm.trans h45)).1.2; omega⟩ (by have u9 := i_succ h38; omega) hend
          ·
            refine v_aload_n X 1 dX8_run_86 rfl rfl ?_
            refine v_iload X 0 dX8_run_87 rfl ?_
            refine v_callV_CV (rest := []) X [.int (g55 i_owner ((g55 iMO 27)).toNatClampNeg)] (c_MO_step (g55 i_owner ((g55 iMO 27)).toNatClampNeg) g55 hI55.1 (ow_in hI55.1)) mf_MO_step wi_MO_step wl_MO_step (lt_MO ) (sh_MO ) rfl wm_MO_177 rfl ⟨by decide, by decide⟩ (Nat.le_of_ble_eq_true rfl) ⟨by decide, by decide⟩ dX8_run_89 ?_
            generalize hg89 : (f_MO_step (g55 i_owner ((g55 iMO 27)).toNatClampNeg) g55) = g89
            have hI89 : Ir t9 b9 g89 := by rw [← hg89]; exact (Ir.step hI55 (ow_in hI55.1))
            refine v_iinc (v := (m2 + 1)) (lv' := [(2, .int (m2 + 1)), (4, .int (g55 i_owner ((g55 iMO 27)).toNatClampNeg)), (0, .ref (rh iMO)), (1, .int xa), (3, .int i3)]) X 3 dX8_run_92 rfl rfl (by decide) rfl ?_
            refine v_aload_n X 2 dX8_run_95 rfl rfl ?_
            refine v_dup X dX8_run_96 rfl ?_
            refine v_getI (i := iMO) (k := 28) X (lt_MO ) (sh_MO ) rfl in_MO (by decide) wf_MO_115 rfl (fun _ => rfl) dX8_run_97 ?_
            refine v_iconst (v := 1) X dX8_run_100 (by decide) ?_
            refine v_isub X dX8_run_101 ?_
            refine v_put (i := iMO) (k := 28) (x := ((g89 iMO 28) - 1)) (ty := .int) X (lt_MO ) (sh_MO ) rfl in_MO (by decide) tyX8 tyX8_ok nX8 wf_MO_115 rfl rfl rfl rfl rfl (fun _ => Nat.le_of_ble_eq_true rfl) (fun _ _ => rfl) dX8_run_102 ?_
            generalize hg102 : (up g89 iMO 28 ((g89 iMO 28) - 1)) = g102
            have hI102 : Ir t9 b9 g102 := by rw [← hg102]; exact (Ir.upMO hI89 (by decide))
            refine v_aload_n X 2 dX8_run_105 rfl rfl ?_
            refine v_getI (i := iMO) (k := 28) X (lt_MO ) (sh_MO ) rfl in_MO (by decide) wf_MO_115 rfl (fun _ => rfl) dX8_run_106 ?_
            refine v_if_ne X 155 dX8_run_109 (by decide) (fun h109 => ?_) (fun h109 => ?_)
            ·
              refine v_iinc (v := (i3 + 1)) (lv' := [(3, .int (i3 + 1)), (2, .int (m2 + 1)), (4, .int (g55 i_owner ((g55 iMO 27)).toNatClampNeg)), (0, .ref (rh iMO)), (1, .int xa)]) X 4 dX8_run_155 rfl rfl (by decide) rfl ?_
              refine v_goto (tgt := 36) X dX8_run_158 (by decide) ?_
              have e9 : lp_MO_run_36 xa (k9 + 1) m2 i3 σ = lp_MO_run_36 xa k9 (m2 + 1) (i3 + 1) g102 := by subst hg55; subst hg89; subst hg102; simp only [lp_MO_run_36, if_neg h38, if_pos h45, if_neg h76, if_pos h83, if_neg h109]
              rw [e9] at hend
              refine v_lv (lv' := [(0, .ref (rh iMO)), (1, .int xa), (2, .int (m2 + 1)), (3, .int (i3 + 1))]) [3, 4, 1, 0] rfl ?_
              exact ih (m2 + 1) (i3 + 1) g102 hI102 ⟨by have u9 := i_succ h38; omega, by have u9 := i_succ h38; have u8 := h38; rw [ile] at u8; have u7 := (hb (hI.2.1.symm.trans h45)).1.2; omega⟩ (by have u9 := i_succ h38; omega) hend
            ·
              refine v_aload_n X 2 dX8_run_112 rfl rfl ?_
              refine v_aload_n X 2 dX8_run_113 rfl rfl ?_
              refine v_getI (i := iMO) (k := 27) X (lt_MO ) (sh_MO ) rfl in_MO (by decide) wf_MO_112 rfl (fun _ => rfl) dX8_run_114 ?_
              refine v_iconst (v := 1) X dX8_run_117 (by decide) ?_
              refine v_iadd X dX8_run_118 ?_
              refine v_aload_n X 2 dX8_run_119 rfl rfl ?_
              refine v_getI (i := iMO) (k := 26) X (lt_MO ) (sh_MO ) rfl in_MO (by decide) wf_MO_100 rfl (fun _ => rfl) dX8_run_120 ?_
              refine v_irem X (w_ne (hI102.1.2.2.2.2 (by rw [hI102.2.2]; exact (hb (hI.2.1.symm.trans h45)).2))) dX8_run_123 ?_
              refine v_put (i := iMO) (k := 27) (x := (((g102 iMO 27) + 1) - ((g102 iMO 27) + 1) / (g102 iMO 26) * (g102 iMO 26))) (ty := .int) X (lt_MO ) (sh_MO ) rfl in_MO (by decide) tyX8 tyX8_ok nX8 wf_MO_112 rfl rfl rfl rfl rfl (fun _ => Nat.le_of_ble_eq_true rfl) (fun _ _ => rfl) dX8_run_124 ?_
              generalize hg124 : (up g102 iMO 27 (((g102 iMO 27) + 1) - ((g102 iMO 27) + 1) / (g102 iMO 26) * (g102 iMO 26))) = g124
              have hI124 : Ir t9 b9 g124 := by rw [← hg124]; exact (Ir.at hI102 (rem_in hI102.1 (hI102.1.2.2.2.2 (by rw [hI102.2.2]; exact (hb (hI.2.1.symm.trans h45)).2))))
              refine v_aload_n X 2 dX8_run_127 rfl rfl ?_
              refine v_aload_n X 2 dX8_run_128 rfl rfl ?_
              refine v_getR (j := i_length) (i := iMO) (k := 15) X (lt_MO ) (sh_MO ) rfl in_MO (by decide) wf_MO_56 rfl (fun _ => rfl) dX8_run_129 ?_
              refine v_aload_n X 2 dX8_run_132 rfl rfl ?_
              refine v_getI (i := iMO) (k := 27) X (lt_MO ) (sh_MO ) rfl in_MO (by decide) wf_MO_112 rfl (fun _ => rfl) dX8_run_133 ?_
              have hv136 : vp_in (g124 iMO 27) 6 := (vin_mk hI124.1.2.2.1.1 hI124.1.2.2.1.2)
              refine v_iald (i := i_length) (t0 := 0) X (lt_m_length ) (sh_m_length ) rfl hv136 dX8_run_136 ?_
              refine v_put (i := iMO) (k := 28) (x := (g124 i_length ((g124 iMO 27)).toNatClampNeg)) (ty := .int) X (lt_MO ) (sh_MO ) rfl in_MO (by decide) tyX8 tyX8_ok nX8 wf_MO_115 rfl rfl rfl rfl rfl (fun _ => Nat.le_of_ble_eq_true rfl) (fun _ _ => rfl) dX8_run_137 ?_
              generalize hg137 : (up g124 iMO 28 (g124 i_length ((g124 iMO 27)).toNatClampNeg)) = g137
              have hI137 : Ir t9 b9 g137 := by rw [← hg137]; exact (Ir.upMO hI124 (by decide))
              refine v_aload_n X 2 dX8_run_140 rfl rfl ?_
              refine v_iconst (v := 0) X dX8_run_141 (by decide) ?_
              refine v_put (i := iMO) (k := 25) (x := 0) (ty := .boolean) X (lt_MO ) (sh_MO ) rfl in_MO (by decide) tyX8 tyX8_ok nX8 wf_MO_118 rfl rfl rfl (zN (Or.inl rfl)) (zF (Or.inl rfl)) (fun _ => Nat.le_of_ble_eq_true rfl) (fun _ _ => rfl) dX8_run_142 ?_
              generalize hg142 : (up g137 iMO 25 0) = g142
              have hI142 : Ir t9 b9 g142 := by rw [← hg142]; exact (Ir.upMO hI137 (by decide))
              refine v_aload_n X 2 dX8_run_145 rfl rfl ?_
              refine v_dup X dX8_run_146 rfl ?_
              refine v_getI (i := iMO) (k := 31) X (lt_MO ) (sh_MO ) rfl in_MO (by decide) wf_MO_121 rfl (fun _ => rfl) dX8_run_147 ?_
              refine v_iconst (v := 1) X dX8_run_150 (by decide) ?_
              refine v_iadd X dX8_run_151 ?_
              refine v_put (i := iMO) (k := 31) (x := ((g142 iMO 31) + 1)) (ty := .int) X (lt_MO ) (sh_MO ) rfl in_MO (by decide) tyX8 tyX8_ok nX8 wf_MO_121 rfl rfl rfl rfl rfl (fun _ => Nat.le_of_ble_eq_true rfl) (fun _ _ => rfl) dX8_run_152 ?_
              generalize hg152 : (up g142 iMO 31 ((g142 iMO 31) + 1)) = g152
              have hI152 : Ir t9 b9 g152 := by rw [← hg152]; exact (Ir.upMO hI142 (by decide))
              refine v_iinc (v := (i3 + 1)) (lv' := [(3, .int (i3 + 1)), (2, .int (m2 + 1)), (4, .int (g55 i_owner ((g55 iMO 27)).toNatClampNeg)), (0, .ref (rh iMO)), (1, .int xa)]) X 4 dX8_run_155 rfl rfl (by decide) rfl ?_
              refine v_goto (tgt := 36) X dX8_run_158 (by decide) ?_
              have e9 : lp_MO_run_36 xa (k9 + 1) m2 i3 σ = lp_MO_run_36 xa k9 (m2 + 1) (i3 + 1) g152 := by subst hg55; subst hg89; subst hg102; subst hg124; subst hg137; subst hg142; subst hg152; simp only [lp_MO_run_36, if_neg h38, if_pos h45, if_neg h76, if_pos h83, if_pos h109]
              rw [e9] at hend
              refine v_lv (lv' := [(0, .ref (rh iMO)), (1, .int xa), (2, .int (m2 + 1)), (3, .int (i3 + 1))]) [3, 4, 1, 0] rfl ?_
              exact ih (m2 + 1) (i3 + 1) g152 hI152 ⟨by have u9 := i_succ h38; omega, by have u9 := i_succ h38; have u8 := h38; rw [ile] at u8; have u7 := (hb (hI.2.1.symm.trans h45)).1.2; omega⟩ (by have u9 := i_succ h38; omega) hend
def f_MO_run (xa : Int32) (σ : St) : Int32 × St :=
  (lp_MO_run_36 xa 401 0 0 (up σ iMO 33 ((if xa < 1 then 1 else (if xa ≤ 400 then (if (σ iMO 24) = 0 then 2 else 0) else 1)) : Int32)))
set_option maxHeartbeats 4000000 in
set_option maxRecDepth 100000 in
theorem c_MO_run (xa : Int32) (σ : St) (hI0 : Im σ) : CI l D (tyL cA) rh (rcW rh cA) NW yX8_run cX8_run 5 .int 4 [.ref (rh iMO), .int xa] σ (f_MO_run xa σ).1 (f_MO_run xa σ).2 := by
  refine CI.of rfl (Nat.le_of_ble_eq_true rfl) rfl ?_
  intro p9 e s m args below meth c A Q X hend
  refine v_lv (lv' := [(0, .ref (rh iMO)), (1, .int xa)]) [0, 1] rfl ?_
  refine v_aload_n X 0 dX8_run_0 rfl rfl ?_
  refine v_iload_n X 1 dX8_run_1 rfl rfl ?_
  refine v_iconst (v := 1) X dX8_run_2 (by decide) ?_
  refine v_suff (pc2 := 29) (lv2 := [(0, .ref (rh iMO)), (1, .int xa)]) (st2 := [.int ((if xa < 1 then 1 else (if xa ≤ 400 then (if (σ iMO 24) = 0 then 2 else 0) else 1)) : Int32), .ref (rh iMO)]) (σ2 := σ) ?_ (fun J3 => ?_)
  rotate_left
  ·
    refine v_icmp_lt X 13 dX8_run_3 (by decide) (fun h3 => ?_) (fun h3 => ?_)
    ·
      refine v_iconst (v := 1) X dX8_run_13 (by decide) ?_
      refine v_goto (tgt := 29) X dX8_run_14 (by decide) ?_
      have e9 : (((if xa < 1 then 1 else (if xa ≤ 400 then (if (σ iMO 24) = 0 then 2 else 0) else 1)) : Int32) : Int32) = 1 := by simp only [if_pos h3]
      rw [e9] at J3
      exact J3
    ·
      refine v_iload_n X 1 dX8_run_6 rfl rfl ?_
      refine v_sipush (v := 400) X dX8_run_7 (by decide) ?_
      refine v_icmp_le X 17 dX8_run_10 (by decide) (fun h10 => ?_) (fun h10 => ?_)
      ·
        refine v_aload_n X 0 dX8_run_17 rfl rfl ?_
        refine v_getI (i := iMO) (k := 24) X (lt_MO ) (sh_MO ) rfl in_MO (by decide) wf_MO_88 rfl (fun _ => rfl) dX8_run_18 ?_
        refine v_if_ne X 28 dX8_run_21 (by decide) (fun h21 => ?_) (fun h21 => ?_)
        ·
          refine v_iconst (v := 0) X dX8_run_28 (by decide) ?_
          have e9 : (((if xa < 1 then 1 else (if xa ≤ 400 then (if (σ iMO 24) = 0 then 2 else 0) else 1)) : Int32) : Int32) = 0 := by simp only [if_neg h3, if_pos h10, if_neg h21]
          rw [e9] at J3
          exact J3
        ·
          refine v_iconst (v := 2) X dX8_run_24 (by decide) ?_
          refine v_goto (tgt := 29) X dX8_run_25 (by decide) ?_
          have e9 : (((if xa < 1 then 1 else (if xa ≤ 400 then (if (σ iMO 24) = 0 then 2 else 0) else 1)) : Int32) : Int32) = 2 := by simp only [if_neg h3, if_pos h10, if_pos h21]
          rw [e9] at J3
          exact J3
      ·
        refine v_iconst (v := 1) X dX8_run_13 (by decide) ?_
        refine v_goto (tgt := 29) X dX8_run_14 (by decide) ?_
        have e9 : (((if xa < 1 then 1 else (if xa ≤ 400 then (if (σ iMO 24) = 0 then 2 else 0) else 1)) : Int32) : Int32) = 1 := by simp only [if_neg h3, if_neg h10]
        rw [e9] at J3
        exact J3
  refine v_put (i := iMO) (k := 33) (x := ((if xa < 1 then 1 else (if xa ≤ 400 then (if (σ iMO 24) = 0 then 2 else 0) else 1)) : Int32)) (ty := .int) X (lt_MO ) (sh_MO ) rfl in_MO (by decide) tyX8 tyX8_ok nX8 wf_MO_84 rfl rfl rfl rfl rfl (fun _ => Nat.le_of_ble_eq_true rfl) (fun _ _ => rfl) dX8_run_29 ?_
  generalize hg29 : (up σ iMO 33 ((if xa < 1 then 1 else (if xa ≤ 400 then (if (σ iMO 24) = 0 then 2 else 0) else 1)) : Int32)) = g29
  refine v_iconst (v := 0) X dX8_run_32 (by decide) ?_
  refine v_istore_n (lv' := [(2, .int 0), (0, .ref (rh iMO)), (1, .int xa)]) X dX8_run_33 rfl (by decide) rfl ?_
  refine v_iconst (v := 0) X dX8_run_34 (by decide) ?_
  refine v_istore_n (lv' := [(3, .int 0), (2, .int 0), (0, .ref (rh iMO)), (1, .int xa)]) X dX8_run_35 rfl (by decide) rfl ?_
  have e9 : f_MO_run xa σ = lp_MO_run_36 xa 401 0 0 g29 := by subst hg29; simp only [f_MO_run]
  rw [e9] at hend
  refine v_lv (lv' := [(0, .ref (rh iMO)), (1, .int xa), (2, .int 0), (3, .int 0)]) [2, 3, 1, 0] rfl ?_
  obtain ⟨t9, b9, hb, hJ⟩ : ∃ t9 b9 : Int32, (t9 = 0 → (1 ≤ xa.toInt ∧ xa.toInt ≤ 400) ∧ ¬ b9 = 0) ∧ Ir t9 b9 g29 := (by subst hg29; exact run_i hI0)
  exact lc_MO_run_36 xa t9 b9 hb X 401 0 0 g29 hJ ⟨by decide, by decide⟩ (by decide) hend
-- I_MO_run: by hand
end CLS
