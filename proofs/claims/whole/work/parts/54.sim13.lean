/-! THE TWO SIDES: boot as the face has it; one state that has both sides -/
section SIM13
variable {a0 b0 a b : St} {o : Option Nat} {p : Nat}
def bt0 (a : St) : St := f_CH_clear 3 (f_CH_clear 2 (f_CH_clear 1 (f_CH_clear 0 (up a 1 5 0))))
def bt1 (b : St) : St := up (up (up (up (up (up (up (up (up b 29 33 0) 29 24 1) 29 32 (b 29 32 + 1)) 29 30 0) 29 29 0) 29 27 0) 29 28 (b 45 0)) 29 25 0) 29 31 1
def btA (log : Int32) (σ : St) : St := up (up (up (up (up (up (up σ 0 4 log) 6 5 0) 6 3 0) 6 4 (σ 8 0)) 6 5 1) 0 2 1) 0 3 (σ 0 3 + 1)
theorem btA_eq (E : Int32 × St) : up (up (f_TT_start (up E.2 0 4 E.1)) 0 2 1) 0 3 (((up (f_TT_start (up E.2 0 4 E.1)) 0 2 1) 0 3) + 1) = btA E.1 E.2 := by
  unfold f_TT_start f_TT_begin btA
  have e1 : (up (up (up E.2 0 4 E.1) iTT 5 0) iTT 3 0) iTL (0 : Int32).toNatClampNeg = E.2 8 0 := by
    rw [up_row (by decide), up_row (by decide), up_row (by decide)]; rfl
  rw [e1]
  have e2 : (up (up (up (up E.2 0 4 E.1) iTT 5 0) iTT 3 0) iTT 4 (E.2 8 0)) iTT 5 = 0 := by
    rw [up_slot (by decide), up_slot (by decide), up_at, if_pos ⟨rfl, rfl⟩]
  rw [e2, show (0 : Int32) + 1 = 1 from by decide]
  have e3 : (up (up (up (up (up (up E.2 0 4 E.1) iTT 5 0) iTT 3 0) iTT 4 (E.2 8 0)) iTT 5 1) 0 2 1) 0 3 = E.2 0 3 := by
    rw [up_slot (by decide), up_row (by decide), up_row (by decide), up_row (by decide), up_row (by decide), up_slot (by decide)]
  rw [e3]
theorem S_boot (h : Rt a0 b0 a b) : Sf a0 b0 (w01 (f_SM_boot a).1) (f_SM_boot a) (f_MO_boot b).1 (f_MO_boot b).2 := by
  have ts := h.1.ic.ts
  have e26 : b 29 26 = a 6 2 := h.1.sc 6 2 26 gmSize
  have bad : f_SM_boot a = (2, 0, a) → ((if (b iMO 24) = 0 then (if (b iMO 26) = 0 then 1 else 0) else 1) : Int32) = 1 → Sf a0 b0 (w01 (f_SM_boot a).1) (f_SM_boot a) (f_MO_boot b).1 (f_MO_boot b).2 := by
    intro hE hF
    rw [hE]
    unfold f_MO_boot
    rw [hF, if_neg (show ¬ up b iMO 33 1 iMO 33 = 0 by rw [show up b iMO 33 1 iMO 33 = 1 from up33v 1]; decide)]
    exact ⟨up33v (b := b) 1, fun e => absurd e k2n, h.thr⟩
  by_cases hb : b 29 24 = 0
  · by_cases hw : b 29 26 = 0
    · refine bad ?_ (by rw [if_pos (show b iMO 24 = 0 from hb), if_pos (show b iMO 26 = 0 from hw)])
      unfold f_SM_boot
      rw [if_pos (nowA h hb), if_pos (show a iTT 2 ≤ 0 by rw [show a iTT 2 = b 29 26 from e26.symm, hw]; decide), rw1 rfl, if_neg k2n]
    · have hw' : ¬ a iTT 2 ≤ 0 := by
        intro e
        apply hw
        rw [ile, t0i] at e
        rw [e26]
        exact Int32.toInt_inj.mp (by show (a iTT 2).toInt = 0; omega)
      have eE : f_SM_boot a = (0, (f_MA_start a).1, btA (f_MA_start a).1 (f_MA_start a).2) := by
        unfold f_SM_boot
        rw [if_pos (nowA h hb), if_neg hw', rw0 k1n, if_pos rfl]
        show (0, up (up (f_TT_start (up (f_MA_start a).2 0 4 (f_MA_start a).1)) 0 2 1) 0 3 (((up (f_TT_start (up (f_MA_start a).2 0 4 (f_MA_start a).1)) 0 2 1) 0 3) + 1) 0 4, up (up (f_TT_start (up (f_MA_start a).2 0 4 (f_MA_start a).1)) 0 2 1) 0 3 (((up (f_TT_start (up (f_MA_start a).2 0 4 (f_MA_start a).1)) 0 2 1) 0 3) + 1)) = _
        rw [btA_eq]
        have e9 : btA (f_MA_start a).1 (f_MA_start a).2 0 4 = (f_MA_start a).1 := by
          unfold btA
          rw [up_slot (by decide), up_slot (by decide), up_row (by decide), up_row (by decide), up_row (by decide), up_row (by decide), up_at, if_pos ⟨rfl, rfl⟩]
        rw [e9]
      have eF : f_MO_boot b = lp_MO_boot_84 5 0 (bt1 b) := by
        unfold f_MO_boot
        rw [if_pos (show b iMO 24 = 0 from hb), if_neg (show ¬ b iMO 26 = 0 from hw), if_pos (show up b iMO 33 0 iMO 33 = 0 from up33v 0)]
        have e1 : up (up b iMO 33 0) iMO 24 1 iMO 32 = b 29 32 := by rw [up_slot (by decide), up_slot (by decide)]
        rw [e1]
        have e2 : (up (up (up (up (up (up b iMO 33 0) iMO 24 1) iMO 32 (b 29 32 + 1)) iMO 30 0) iMO 29 0) iMO 27 0) i_length (0 : Int32).toNatClampNeg = b 45 0 := by
          rw [up_row (by decide), up_row (by decide), up_row (by decide), up_row (by decide), up_row (by decide), up_row (by decide)]; rfl
        rw [e2]; rfl
      rw [eE, eF, mstart_eq]
      have hB : Re a0 b0 none (bt0 a) (up (up (up (up (up b 29 29 0) 43 0 0) 43 1 0) 43 2 0) 43 3 0) := by
        unfold bt0 f_CH_clear
        exact ((((h.1.upG gmTime (Ic.upMA h.1.ic)).upC (by decide) cm3).upC (by decide) cm3).upC (by decide) cm3).upC (by decide) cm3
      generalize hBd : up (up (up (up (up b 29 29 0) 43 0 0) 43 1 0) 43 2 0) 43 3 0 = B at hB
      have hZ : Zg (B 29) (B 43) (bt1 b) = B := by
        unfold bt1
        rw [Zg_29, Zg_29, Zg_29, Zg_29, Zg_29, Zg_29, Zg_29, Zg_29, Zg_29]
        funext j
        unfold Zg
        by_cases q : j = 43
        · subst q; rw [upr_self]
        · rw [upr_row q]
          by_cases q2 : j = 29
          · subst q2; rw [upr_self]
          · rw [upr_row q2, ← hBd, up_row q, up_row q, up_row q, up_row q, up_row q2]
      have k30 : bt1 b 29 30 = 0 := by
        unfold bt1
        rw [up_slot (by decide), up_slot (by decide), up_slot (by decide), up_slot (by decide), up_slot (by decide), up_at, if_pos ⟨rfl, rfl⟩]
      have hL := S_bootl (a0 := a0) (b0 := b0) (g := B 29) (z := B 43) 5 0 (bt0 a) (bt1 b) (by omega) (by omega) (by rw [hZ]; exact hB)
      rw [k30, show nI 0 = (0 : Int32) from rfl] at hL
      show Sf a0 b0 (w01 0) (0, (lp_MA_start_31 5 0 0 (bt0 a)).1, btA (lp_MA_start_31 5 0 0 (bt0 a)).1 (lp_MA_start_31 5 0 0 (bt0 a)).2) (lp_MO_boot_84 5 0 (bt1 b)).1 (lp_MO_boot_84 5 0 (bt1 b)).2
      generalize lp_MA_start_31 5 0 0 (bt0 a) = E at hL ⊢
      generalize lp_MO_boot_84 5 0 (bt1 b) = F at hL ⊢
      obtain ⟨u1, u2, u3, u4, u5, u6, u7, u8, u9, u10⟩ := hL
      -- the class's rows before the loop
      have z0 : ∀ c, c < 4 → bt0 a (iC c) 3 = 0 := by
        intro c hc
        rw [← hB.ch c 3 43 hc cm3, ← hBd]
        simp only [up_at]
        have cs : c = 0 ∨ c = 1 ∨ c = 2 ∨ c = 3 := by omega
        rcases cs with rfl | rfl | rfl | rfl <;> simp
      have r0 : bt0 a 0 = a 0 := by
        unfold bt0 f_CH_clear
        rw [up_row (by unfold iC; omega), up_row (by unfold iC; omega), up_row (by unfold iC; omega), up_row (by unfold iC; omega), up_row (by decide)]
      have r6 : bt0 a 6 = a 6 := by
        unfold bt0 f_CH_clear
        rw [up_row (by unfold iC; omega), up_row (by unfold iC; omega), up_row (by unfold iC; omega), up_row (by unfold iC; omega), up_row (by decide)]
      have r8 : bt0 a 8 = a 8 := by
        unfold bt0 f_CH_clear
        rw [up_row (by unfold iC; omega), up_row (by unfold iC; omega), up_row (by unfold iC; omega), up_row (by unfold iC; omega), up_row (by decide)]
      have r1 : bt0 a 1 = up a 1 5 0 1 := by
        unfold bt0 f_CH_clear
        rw [up_row (by unfold iC; omega), up_row (by unfold iC; omega), up_row (by unfold iC; omega), up_row (by unfold iC; omega)]
      have x0 : E.2 0 = a 0 := (u5 0 (by omega)).trans r0
      have x1 : E.2 1 = up a 1 5 0 1 := (u5 1 (by omega)).trans r1
      have x6 : E.2 6 = a 6 := (u5 6 (by omega)).trans r6
      have x8 : E.2 8 = a 8 := (u5 8 (by omega)).trans r8
      -- the class's state at the end
      have A : ∀ i, i ≠ 0 → i ≠ 6 → btA E.1 E.2 i = E.2 i := by
        intro i h0 h6
        unfold btA
        rw [up_row h0, up_row h0, up_row h6, up_row h6, up_row h6, up_row h6, up_row h0]
      have a02 : btA E.1 E.2 0 2 = 1 := by unfold btA; rw [up_slot (by decide), up_at, if_pos ⟨rfl, rfl⟩]
      have a03 : btA E.1 E.2 0 3 = a 0 3 + 1 := by unfold btA; rw [up_at, if_pos ⟨rfl, rfl⟩, x0]
      have a04 : btA E.1 E.2 0 4 = E.1 := by
        unfold btA
        rw [up_slot (by decide), up_slot (by decide), up_row (by decide), up_row (by decide), up_row (by decide), up_row (by decide), up_at, if_pos ⟨rfl, rfl⟩]
      have a62 : btA E.1 E.2 6 2 = a 6 2 := by
        unfold btA
        rw [up_row (by decide), up_row (by decide), up_slot (by decide), up_slot (by decide), up_slot (by decide), up_slot (by decide), up_row (by decide), x6]
      have a63 : btA E.1 E.2 6 3 = 0 := by
        unfold btA
        rw [up_row (by decide), up_row (by decide), up_slot (by decide), up_slot (by decide), up_at, if_pos ⟨rfl, rfl⟩]
      have a64 : btA E.1 E.2 6 4 = a 8 0 := by
        unfold btA
        rw [up_row (by decide), up_row (by decide), up_slot (by decide), up_at, if_pos ⟨rfl, rfl⟩, x8]
      have a65 : btA E.1 E.2 6 5 = 1 := by
        unfold btA
        rw [up_row (by decide), up_row (by decide), up_at, if_pos ⟨rfl, rfl⟩]
      have a10 : btA E.1 E.2 1 0 = a 1 0 := by rw [A 1 (by decide) (by decide), x1, up_slot (by decide)]
      have a15 : btA E.1 E.2 1 5 = 0 := by rw [A 1 (by decide) (by decide), x1, up_at, if_pos ⟨rfl, rfl⟩]
      -- the reference's row at the end
      have f24 : F.2 29 24 = 1 := by
        rw [u4 24 (by decide)]; unfold bt1
        rw [up_slot (by decide), up_slot (by decide), up_slot (by decide), up_slot (by decide), up_slot (by decide), up_slot (by decide), up_slot (by decide), up_at, if_pos ⟨rfl, rfl⟩]
      have f33 : F.2 29 33 = 0 := by
        rw [u4 33 (by decide)]; unfold bt1
        rw [up_slot (by decide), up_slot (by decide), up_slot (by decide), up_slot (by decide), up_slot (by decide), up_slot (by decide), up_slot (by decide), up_slot (by decide), up_at, if_pos ⟨rfl, rfl⟩]
      have f32 : F.2 29 32 = b 29 32 + 1 := by
        rw [u4 32 (by decide)]; unfold bt1
        rw [up_slot (by decide), up_slot (by decide), up_slot (by decide), up_slot (by decide), up_slot (by decide), up_slot (by decide), up_at, if_pos ⟨rfl, rfl⟩]
      have f23 : F.2 29 23 = b 29 23 := by
        rw [u4 23 (by decide)]; unfold bt1
        rw [up_slot (by decide), up_slot (by decide), up_slot (by decide), up_slot (by decide), up_slot (by decide), up_slot (by decide), up_slot (by decide), up_slot (by decide), up_slot (by decide)]
      have f26 : F.2 29 26 = b 29 26 := by
        rw [u4 26 (by decide)]; unfold bt1
        rw [up_slot (by decide), up_slot (by decide), up_slot (by decide), up_slot (by decide), up_slot (by decide), up_slot (by decide), up_slot (by decide), up_slot (by decide), up_slot (by decide)]
      have f29 : F.2 29 29 = 0 := by
        rw [u4 29 (by decide)]; unfold bt1
        rw [up_slot (by decide), up_slot (by decide), up_slot (by decide), up_slot (by decide), up_at, if_pos ⟨rfl, rfl⟩]
      have f27 : F.2 29 27 = 0 := by
        rw [u4 27 (by decide)]; unfold bt1
        rw [up_slot (by decide), up_slot (by decide), up_slot (by decide), up_at, if_pos ⟨rfl, rfl⟩]
      have f28 : F.2 29 28 = b 45 0 := by
        rw [u4 28 (by decide)]; unfold bt1
        rw [up_slot (by decide), up_slot (by decide), up_at, if_pos ⟨rfl, rfl⟩]
      have f25 : F.2 29 25 = 0 := by
        rw [u4 25 (by decide)]; unfold bt1
        rw [up_slot (by decide), up_at, if_pos ⟨rfl, rfl⟩]
      have f31 : F.2 29 31 = 1 := by
        rw [u4 31 (by decide)]; unfold bt1
        rw [up_at, if_pos ⟨rfl, rfl⟩]
      have f45 : F.2 45 = b 45 := by
        rw [u10]; unfold bt1
        rw [up_row (by decide), up_row (by decide), up_row (by decide), up_row (by decide), up_row (by decide), up_row (by decide), up_row (by decide), up_row (by decide), up_row (by decide)]
      have hic : Ic (btA E.1 E.2) := by
        obtain ⟨i1, i2, i3, i4⟩ := u3.ic
        refine ⟨fun q hq => by rw [A (iP q) (by unfold iP; omega) (by unfold iP; omega)]; exact i1 q hq, by rw [show btA E.1 E.2 iTT 2 = _ from a62]; exact ts, by rw [show btA E.1 E.2 iTT 3 = _ from a63]; decide, fun w hw => by rw [A 7 (by decide) (by decide)]; exact i4 w hw⟩
      have hRe : Re a0 b0 none (btA E.1 E.2) F.2 := by
        refine u3.scal hic (fun i h0 _ h6 => A i h0 h6) (fun i h29 h43 => (Zg_row h29 h43).symm) ?_ ?_
        · intro i k s hg
          rcases hg with ⟨rfl, rfl, rfl⟩ | ⟨rfl, rfl, rfl⟩ | ⟨rfl, rfl, rfl⟩ | ⟨rfl, rfl, rfl⟩ | ⟨rfl, rfl, rfl⟩ | ⟨rfl, rfl, rfl⟩ | ⟨rfl, rfl, rfl⟩ | ⟨rfl, rfl, rfl⟩ | ⟨rfl, rfl, rfl⟩
          · rw [f24, a02]
          · rw [f32, a03, h.1.sc 0 3 32 gmBoots]
          · rw [u2, a04, u1]
          · rw [f23, a10, h.1.sc 1 0 23 gmKey]
          · rw [f29, a15]
          · rw [f26, a62, e26]
          · rw [f27, a63]
          · rw [f28, a64, h.1.tl 0 (by decide)]
          · rw [f31, a65]
        · intro c hc
          rw [u7 c hc (by omega), A (iC c) (by unfold iC; omega) (by unfold iC; omega), u6 c hc, z0 c hc]
      refine ⟨by rw [f33]; decide, fun _ => u1, hRe, ⟨fun w hw h1 => ?_, fun _ => ?_⟩, fun _ => ?_⟩
      · rw [f26] at h1
        rw [f45]; exact h.2.1.1 w hw h1
      · have hpos : 1 ≤ (b 29 26).toInt := by
          rw [ile, t0i] at hw'
          rw [e26]
          have : ¬ (a 6 2).toInt ≤ 0 := hw'
          omega
        rw [f27, f26, f28, t0i]
        exact ⟨by omega, h.2.1.1 0 (by decide) (by omega)⟩
      · have hq := vin_lt (pn_in hic)
        dsimp only
        rw [f25, A (iP _) (by unfold iP; omega) (by unfold iP; omega)]
        exact (u8 _ hq (by omega)).symm
  · refine bad ?_ (by rw [if_neg (show ¬ b iMO 24 = 0 from hb)])
    unfold f_SM_boot
    rw [if_neg (nowB h hb), rw1 rfl, if_neg k2n]
/-- the same state where each side's rows are the same -/
theorem Re.cong {c : St} (h : Re a0 b0 o a b) (ha : ∀ i, i < 29 → c i = a i) (hb : ∀ i, 29 ≤ i → i < 53 → c i = b i) : Re c c o c c := by
  have rP : ∀ q, q < 4 → c (iP q) = a (iP q) := fun q hq => ha _ (by unfold iP; omega)
  have rR : ∀ q, q < 4 → c (iR q) = a (iR q) := fun q hq => ha _ (by unfold iR; omega)
  have rI : ∀ q, q < 4 → c (iI q) = a (iI q) := fun q hq => ha _ (by unfold iI; omega)
  have rC : ∀ q, q < 4 → c (iC q) = a (iC q) := fun q hq => ha _ (by unfold iC; omega)
  have rS : ∀ q, q < 4 → c (iS q) = a (iS q) := fun q hq => ha _ (by unfold iS; omega)
  refine ⟨fun j hj => rfl, fun j hj => rfl, ?_, fun q k i hq hk => ?_, fun q k i hq hk => ?_, fun q k i hq hk => ?_, fun w hw => ?_, fun w hw => ?_, fun i k s hg => ?_, fun j hj => ?_, fun q j hq hj => ?_, fun q j hq hj => ?_, fun d hd => ?_, fun q hq => ?_, fun q hq => ?_, fun q hq => ?_⟩
  · obtain ⟨i1, i2, i3, i4⟩ := h.ic
    refine ⟨fun q hq => by rw [rP q hq]; exact i1 q hq, by rw [ha 6 (by decide)]; exact i2, by rw [ha 6 (by decide)]; exact i3, fun w hw => by rw [ha 7 (by decide)]; exact i4 w hw⟩
  · rw [hb i (by unfold Pm at hk; omega) (by unfold Pm at hk; omega), rP q hq]; exact h.pt q k i hq hk
  · rw [hb i (by unfold Cm at hk; omega) (by unfold Cm at hk; omega), rC q hq]; exact h.ch q k i hq hk
  · rw [hb i (by unfold Sm at hk; omega) (by unfold Sm at hk; omega), rS q hq]; exact h.sl q k i hq hk
  · rw [hb 44 (by decide) (by decide), ha 7 (by decide)]; exact h.tp w hw
  · rw [hb 45 (by decide) (by decide), ha 8 (by decide)]; exact h.tl w hw
  · rw [hb 29 (by decide) (by decide), ha i (by unfold Gm at hg; omega)]; exact h.sc i k s hg
  · rw [hb 30 (by decide) (by decide), ha 2 (by decide)]; exact h.mem j hj
  · rw [hb 31 (by decide) (by decide), rI q hq]; exact h.img q j hq hj
  · rw [hb 32 (by decide) (by decide), rR q hq]; exact h.reg q j hq hj
  · have hc4 := (h.sil d hd).1
    rw [hb 29 (by decide) (by decide), rP d hc4]; exact h.sil d hd
  · rw [rR q hq]; exact h.x0 q hq
  · rw [hb 35 (by decide) (by decide)]; exact h.pol q hq
  · rw [hb 39 (by decide) (by decide)]; exact h.rst q hq
theorem Rt.cong {c : St} (h : Rt a0 b0 a b) (ha : ∀ i, i < 29 → c i = a i) (hb : ∀ i, 29 ≤ i → i < 53 → c i = b i) : Rt c c c c := by
  have hp : pnow c = pnow a := pnow_tr (ha 6 (by decide)) (ha 7 (by decide))
  have hlt := vin_lt (pn_in h.1.ic)
  refine ⟨h.1.cong ha hb, ⟨fun w hw h1 => ?_, fun h1 => ?_⟩, fun h1 => ?_⟩
  · rw [hb 29 (by decide) (by decide)] at h1
    rw [hb 45 (by decide) (by decide)]; exact h.2.1.1 w hw h1
  · rw [hb 29 (by decide) (by decide)] at h1 ⊢
    exact h.2.1.2 h1
  · rw [hb 29 (by decide) (by decide)] at h1 ⊢
    rw [hp, ha (iP (pnow a)) (by unfold iP; have : pnow a < 4 := hlt; omega)]
    exact h.2.2 h1
/-- what always holds of the reference's state, out of the relation -/
theorem Rt.im {σ : St} (h : Rt σ σ σ σ) : Im σ := by
  have hi := h.1.ic
  refine ⟨fun q hq => ?_, ?_, ?_, fun w hw => ?_, fun hb => ?_⟩
  · rw [show σ i_from q = _ from h.1.pt q 1 33 hq pm1, show σ i_size q = _ from h.1.pt q 2 34 hq pm2]; exact hi.rg hq
  · rw [show σ iMO 26 = _ from h.1.sc 6 2 26 gmSize]; exact hi.ts
  · rw [show σ iMO 27 = _ from h.1.sc 6 3 27 gmCur]; exact hi.tc
  · rw [show σ i_owner w = _ from h.1.tp w hw]; exact hi.tp hw
  · have h1 := h.2.1.2 hb
    have h2 := hi.tc
    rw [show σ iTT 3 = σ 29 27 from (h.1.sc 6 3 27 gmCur).symm] at h2
    show 1 ≤ (σ 29 26).toInt
    omega
end SIM13
