/-! THE TWO SIDES: the face -/
theorem within0 (x l m : Int32) : f_SM_within x l m = 0 ↔ (x < l ∨ m < x) := by
  unfold f_SM_within
  by_cases h : x < l
  · simp [h]
  · by_cases h2 : m < x <;> simp [h, h2]
theorem rb0 {x : Int32} (h : ¬ x = 0) : f_SM_refuseBadUnless x = 0 := by unfold f_SM_refuseBadUnless; rw [if_neg h]
theorem rb1 {x : Int32} (h : x = 0) : f_SM_refuseBadUnless x = 1 := by unfold f_SM_refuseBadUnless; rw [if_pos h]
theorem rw0 {x : Int32} (h : ¬ x = 0) : f_SM_refuseNowUnless x = 0 := by unfold f_SM_refuseNowUnless; rw [if_neg h]
theorem rw1 {x : Int32} (h : x = 0) : f_SM_refuseNowUnless x = 2 := by unfold f_SM_refuseNowUnless; rw [if_pos h]
section SIM7
variable {a0 b0 a b : St} {o : Option Nat}
theorem set_bad {d : Int32} (h : ¬ d = 0) : f_MO_set d b = (0, up b 29 33 1) := by
  unfold f_MO_set
  rw [if_neg h, if_neg (show ¬ up b 29 33 1 29 33 = 0 by rw [up33v]; decide)]
theorem set_now {d : Int32} (h : d = 0) (h2 : ¬ b 29 24 = 0) : f_MO_set d b = (0, up b 29 33 2) := by
  unfold f_MO_set
  rw [if_pos h, if_neg (show ¬ b iMO 24 = 0 from h2), if_neg (show ¬ up b 29 33 2 29 33 = 0 by rw [up33v]; decide)]
theorem set_ok1 {d : Int32} (h : d = 0) (h2 : b 29 24 = 0) : f_MO_set d b = (1, up b 29 33 0) := by
  unfold f_MO_set
  rw [if_pos h, if_pos (show b iMO 24 = 0 from h2), if_pos (show up b 29 33 0 29 33 = 0 by rw [up33v])]
theorem Rt.mk0 (h : Re a0 b0 none a b) (hb : Bw b) (h0 : b 29 24 = 0) : Rt a0 b0 a b := ⟨h, hb, fun e => absurd h0 e⟩
theorem Bw.row {i k : Nat} {v : Int32} (h : Bw b) (hi : i ≠ 29 ∧ i ≠ 45) : Bw (up b i k v) := by
  refine ⟨fun w hw h1 => ?_, fun h1 => ?_⟩
  · rw [up_row (fun e => hi.1 e.symm)] at h1
    rw [up_row (fun e => hi.2 e.symm)]
    exact h.1 w hw h1
  · rw [up_row (fun e => hi.1 e.symm)] at h1 ⊢
    exact h.2 h1
theorem k1n : ¬ (1 : Int32) = 0 := by decide
theorem k2n : ¬ (2 : Int32) = 0 := by decide
theorem k3n : ¬ (3 : Int32) = 0 := by decide
theorem nowA (h : Rt a0 b0 a b) (q : b 29 24 = 0) : a iSM 2 = 0 := by rw [← q]; exact h.boo.symm
theorem nowB (h : Rt a0 b0 a b) (q : ¬ b 29 24 = 0) : ¬ a iSM 2 = 0 := fun e => q (h.boo.trans e)
theorem Sf.bad {E : Int32 × Int32 × St} {F : St} {v : Int32} (k : Int32) (h : Rt a0 b0 a b) (hk : ¬ k = 0) (hE : E = (k, 0, a)) (hF : F = up b 29 33 k) : Sf a0 b0 E.1 E v F := by
  subst hE; subst hF
  exact ⟨up33v (b := b) k, fun e => absurd e hk, h.thr⟩
theorem S_load2 (h : Rt a0 b0 a b) (xa xb v : Int32) : Sf a0 b0 (f_SM_load xa xb a).1 (f_SM_load xa xb a) (f_SM_load xa xb a).2.1 (f_MO_load xa xb b) := by
  unfold f_SM_load f_MO_load f_SM_isWord
  by_cases hd : f_MO_no xa 95 = 0
  · rw [rb0 (by rw [wiNo hd]; decide), if_pos rfl]
    by_cases hb : b 29 24 = 0
    · rw [rw0 (by rw [if_pos (nowA h hb)]; decide), if_pos rfl, set_ok1 hd hb, if_neg (show ¬ ((1 : Int32), up b 29 33 0).1 = 0 from k1n)]
      refine ⟨?_, fun _ => rfl, Rt.mk0 (h.thr.1.upMem (vin_lt (no95 hd))) (h.2.1.thr.row (by decide)) ?_⟩
      · show up (up b 29 33 0) 30 _ _ 29 33 = 0
        rw [up_row (by decide), up33v]
      · show up (up b 29 33 0) 30 _ _ 29 24 = 0
        rw [up_row (by decide), up_slot (by decide)]; exact hb
    · rw [rw1 (by rw [if_neg (nowB h hb)]), if_neg k2n, set_now hd hb, if_pos rfl]
      exact Sf.bad 2 h k2n rfl rfl
  · rw [rb1 (wiNo0 hd), if_neg k1n, set_bad hd, if_pos rfl]
    exact Sf.bad 1 h k1n rfl rfl
theorem cPol (xa xb : Int32) : ((if (f_SM_isPartition xa) = 0 then 0 else (if (f_SM_within xb 0 2) = 0 then 0 else 1)) : Int32) = 0 ↔ ¬ ((if (f_MO_no xa 3) = 0 then (if (f_MO_no xb 2) = 0 then 0 else 1) else 1) : Int32) = 0 := by
  unfold f_SM_isPartition
  by_cases h1 : f_MO_no xa 3 = 0
  · by_cases h2 : f_MO_no xb 2 = 0
    · simp [wiNo h1, wiNo h2, h1, h2]
    · simp [wiNo h1, wiNo0 h2, h1, h2]
  · simp [wiNo0 h1, h1]
theorem dPol {xa xb : Int32} (h : ((if (f_MO_no xa 3) = 0 then (if (f_MO_no xb 2) = 0 then 0 else 1) else 1) : Int32) = 0) : f_MO_no xa 3 = 0 ∧ f_MO_no xb 2 = 0 := by
  obtain ⟨h1, h2⟩ := ifz1 h
  exact ⟨h1, Classical.byContradiction fun e => by rw [if_neg e] at h2; exact absurd h2 (by decide)⟩
theorem S_policy (h : Rt a0 b0 a b) (xa xb v : Int32) : Sf a0 b0 (f_SM_policy xa xb a).1 (f_SM_policy xa xb a) (f_SM_policy xa xb a).2.1 (f_MO_policy xa xb b) := by
  unfold f_SM_policy f_MO_policy
  by_cases hd : ((if (f_MO_no xa 3) = 0 then (if (f_MO_no xb 2) = 0 then 0 else 1) else 1) : Int32) = 0
  · rw [rb0 (fun e => (cPol xa xb).mp e hd), if_pos rfl]
    by_cases hb : b 29 24 = 0
    · rw [rw0 (by rw [if_pos (nowA h hb)]; decide), if_pos rfl, set_ok1 hd hb, if_neg (show ¬ ((1 : Int32), up b 29 33 0).1 = 0 from k1n)]
      have hv : xb = 0 ∨ xb = 1 ∨ xb = 2 := by
        obtain ⟨j, hj, rfl⟩ := vp_in_of (no_i (N := 3) (by decide) (dPol hd).2) (by omega)
        have cs : j = 0 ∨ j = 1 ∨ j = 2 := by omega
        rcases cs with rfl | rfl | rfl
        · exact Or.inl rfl
        · exact Or.inr (Or.inl rfl)
        · exact Or.inr (Or.inr rfl)
      refine ⟨?_, fun _ => rfl, Rt.mk0 (h.thr.1.upPol (vin_lt (no3 (dPol hd).1)) hv) (h.2.1.thr.row (by decide)) ?_⟩
      · show up (up b 29 33 0) 35 _ _ 29 33 = 0
        rw [up_row (by decide), up33v]
      · show up (up b 29 33 0) 35 _ _ 29 24 = 0
        rw [up_row (by decide), up_slot (by decide)]; exact hb
    · rw [rw1 (by rw [if_neg (nowB h hb)]), if_neg k2n, set_now hd hb, if_pos rfl]
      exact Sf.bad 2 h k2n rfl rfl
  · rw [rb1 ((cPol xa xb).mpr hd), if_neg k1n, set_bad hd, if_pos rfl]
    exact Sf.bad 1 h k1n rfl rfl
theorem le_not {x m : Int32} : m < x ↔ ¬ x ≤ m := by rw [ilt, ile]; omega
theorem cCha (xa xb xc xd : Int32) : ((if (f_SM_isChannel xa) = 0 then 0 else (if (f_SM_within xb (-1) 3) = 0 then 0 else (if (f_SM_within xc 0 15) = 0 then 0 else (if (f_SM_within xd 1 100) = 0 then 0 else 1)))) : Int32) = 0 ↔ ¬ ((if (f_MO_no xa 3) = 0 then (if xb < (-1) then 1 else (if 3 < xb then 1 else (if (f_MO_no xc 15) = 0 then (if xd < 1 then 1 else (if xd ≤ 100 then 0 else 1)) else 1))) else 1) : Int32) = 0 := by
  unfold f_SM_isChannel
  simp only [within0 xb, within0 xd, le_not (x := xd)]
  by_cases h1 : f_MO_no xa 3 = 0
  · by_cases h2 : xb < -1
    · simp [wiNo h1, h1, h2]
    · by_cases h3 : 3 < xb
      · simp [wiNo h1, h1, h2, h3]
      · by_cases h4 : f_MO_no xc 15 = 0
        · by_cases h5 : xd < 1
          · simp [wiNo h1, h1, h2, h3, wiNo h4, h4, h5]
          · by_cases h6 : xd ≤ 100
            · simp [wiNo h1, h1, h2, h3, wiNo h4, h4, h5, h6]
            · simp [wiNo h1, h1, h2, h3, wiNo h4, h4, h5, h6]
        · simp [wiNo h1, h1, h2, h3, wiNo0 h4, h4]
  · simp [wiNo0 h1, h1]
theorem S_channel (h : Rt a0 b0 a b) (xa xb xc xd v : Int32) : Sf a0 b0 (f_SM_channel xa xb xc xd a).1 (f_SM_channel xa xb xc xd a) (f_SM_channel xa xb xc xd a).2.1 (f_MO_channel xa xb xc xd b) := by
  unfold f_SM_channel f_MO_channel
  by_cases hd : ((if (f_MO_no xa 3) = 0 then (if xb < (-1) then 1 else (if 3 < xb then 1 else (if (f_MO_no xc 15) = 0 then (if xd < 1 then 1 else (if xd ≤ 100 then 0 else 1)) else 1))) else 1) : Int32) = 0
  · rw [rb0 (fun e => (cCha xa xb xc xd).mp e hd), if_pos rfl]
    by_cases hb : b 29 24 = 0
    · rw [rw0 (by rw [if_pos (nowA h hb)]; decide), if_pos rfl, set_ok1 hd hb, if_neg (show ¬ ((1 : Int32), up b 29 33 0).1 = 0 from k1n)]
      have hc := vin_lt (no3 (ifz1 hd).1)
      refine ⟨?_, fun _ => rfl, Rt.mk0 (((h.thr.1.upC hc cm0).upC hc cm1).upC hc cm2) (((h.2.1.thr.row (by decide)).row (by decide)).row (by decide)) ?_⟩
      · show up (up (up (up b 29 33 0) 46 _ _) 47 _ _) 48 _ _ 29 33 = 0
        rw [up_row (by decide), up_row (by decide), up_row (by decide), up33v]
      · show up (up (up (up b 29 33 0) 46 _ _) 47 _ _) 48 _ _ 29 24 = 0
        rw [up_row (by decide), up_row (by decide), up_row (by decide), up_slot (by decide)]; exact hb
    · rw [rw1 (by rw [if_neg (nowB h hb)]), if_neg k2n, set_now hd hb, if_pos rfl]
      exact Sf.bad 2 h k2n rfl rfl
  · rw [rb1 ((cCha xa xb xc xd).mpr hd), if_neg k1n, set_bad hd, if_pos rfl]
    exact Sf.bad 1 h k1n rfl rfl
theorem S_reset (h : Rt a0 b0 a b) : Sf a0 b0 (w01 (f_SM_reset a).1) (f_SM_reset a) (f_SM_reset a).2.1 (f_MO_reset b) := by
  unfold f_SM_reset f_MO_reset
  by_cases hb : b 29 24 = 0
  · rw [rw1 (nowA h hb), if_neg k2n, if_pos (show b iMO 24 = 0 from hb)]
    have e : up (up b iMO 33 1) iMO 24 0 = up b 29 33 1 := by
      funext j k
      rw [up_at]
      split
      · rename_i q
        rw [q.1, q.2, up_slot (by decide)]; exact hb.symm
      · rfl
    rw [e]
    exact ⟨up33v 1, fun e => absurd e k2n, h.thr⟩
  · rw [rw0 (nowB h hb), if_pos rfl, if_neg (show ¬ b iMO 24 = 0 from hb)]
    refine ⟨?_, fun _ => rfl, Rt.mk0 (h.thr.1.upG gmBooted (Ic.upSM h.1.ic)) ⟨fun w hw h1 => ?_, fun h1 => ?_⟩ ?_⟩
    · show up (up b 29 33 0) 29 24 0 29 33 = w01 0
      rw [up_slot (by decide), up33v]; decide
    · rw [up_slot (by decide), up_slot (by decide)] at h1
      rw [up_row (by decide), up_row (by decide)]
      exact h.2.1.1 w hw h1
    · rw [up_at, if_pos ⟨rfl, rfl⟩] at h1
      exact absurd rfl h1
    · rw [up_at, if_pos ⟨rfl, rfl⟩]
theorem S_quote (h : Rt a0 b0 a b) (xa : Int32) : Sf a0 b0 (w01 (f_SM_quote xa a).1) (f_SM_quote xa a) (f_MO_quote xa b).1 (f_MO_quote xa b).2 := by
  unfold f_SM_quote f_MO_quote
  by_cases hb : b 29 24 = 0
  · rw [rw1 (nowA h hb), if_neg k2n, if_pos (show b iMO 24 = 0 from hb)]
    exact ⟨up33v (b := b) 1, fun e => absurd e k2n, h.thr⟩
  · rw [rw0 (nowB h hb), if_pos rfl, if_neg (show ¬ b iMO 24 = 0 from hb)]
    refine ⟨up33v (b := b) 0, fun _ => ?_, h.thr⟩
    dsimp only
    rw [if_pos (show up b iMO 33 0 iMO 33 = 0 from up33v 0), up_slot (show (23 : Nat) ≠ 33 by decide), up_slot (show (30 : Nat) ≠ 33 by decide), show b iMO 23 = a iMA 0 from h.1.sc 1 0 23 gmKey, show b iMO 30 = a iSM 4 from h.1.sc 0 4 30 gmLog]
    rfl
theorem cReg (xa xb : Int32) : ((if (f_SM_isPartition xa) = 0 then 0 else (if (f_SM_within xb 0 16) = 0 then 0 else 1)) : Int32) = 0 ↔ ¬ (f_MO_no xa 3 = 0 ∧ f_MO_no xb 16 = 0) := by
  unfold f_SM_isPartition
  by_cases h1 : f_MO_no xa 3 = 0
  · by_cases h2 : f_MO_no xb 16 = 0
    · simp [wiNo h1, wiNo h2, h1, h2]
    · simp [wiNo h1, wiNo0 h2, h1, h2]
  · simp [wiNo0 h1, h1]
theorem S_register (h : Rt a0 b0 a b) (xa xb : Int32) : Sf a0 b0 (f_SM_register xa xb a).1 (f_SM_register xa xb a) (f_MO_register xa xb b).1 (f_MO_register xa xb b).2 := by
  unfold f_SM_register f_MO_register
  by_cases hd : f_MO_no xa 3 = 0 ∧ f_MO_no xb 16 = 0
  · rw [rb0 (fun e => (cReg xa xb).mp e hd), if_pos rfl, if_pos hd.1, if_pos hd.2]
    by_cases hb : b 29 24 = 0
    · rw [rw1 (nowA h hb), if_neg k2n, if_pos (show b iMO 24 = 0 from hb), if_neg (by show ¬ up b 29 33 2 29 33 = 0; rw [up33v]; decide)]
      exact Sf.bad 2 h k2n rfl rfl
    · rw [rw0 (nowB h hb), if_pos rfl, if_neg (show ¬ b iMO 24 = 0 from hb), if_pos (show up b iMO 33 0 iMO 33 = 0 from up33v 0)]
      refine ⟨up33v (b := b) 0, fun _ => ?_, h.thr⟩
      show ((if xb = 16 then (a (iP xa.toNatClampNeg) 5) else (f_PT_get xa.toNatClampNeg xb a)) : Int32) = ((if xb = 16 then ((up b 29 33 0) i_pc xa.toNatClampNeg) else ((up b 29 33 0) i_register (((xa * 16) + xb)).toNatClampNeg)) : Int32)
      obtain ⟨p, hp, rfl⟩ := vp_in_of (no3 hd.1) (by omega)
      rw [nIc hp, up_row (by decide), up_row (by decide)]
      by_cases q : xb = 16
      · rw [if_pos q, if_pos q]; exact (h.1.pt p 5 36 hp pm5).symm
      · rw [if_neg q, if_neg q]; exact S_get h.1 hp (r16 hd.2 q)
  · rw [rb1 ((cReg xa xb).mpr hd), if_neg k1n]
    have e : ((if (f_MO_no xa 3) = 0 then (if (f_MO_no xb 16) = 0 then (if (b iMO 24) = 0 then 2 else 0) else 1) else 1) : Int32) = 1 := by
      by_cases h1 : f_MO_no xa 3 = 0
      · rw [if_pos h1, if_neg (fun e => hd ⟨h1, e⟩)]
      · rw [if_neg h1]
    rw [e, if_neg (by show ¬ up b 29 33 1 29 33 = 0; rw [up33v]; decide)]
    exact Sf.bad 1 h k1n rfl rfl
theorem S_memory (h : Rt a0 b0 a b) (xa : Int32) : Sf a0 b0 (f_SM_memory xa a).1 (f_SM_memory xa a) (f_MO_memory xa b).1 (f_MO_memory xa b).2 := by
  unfold f_SM_memory f_MO_memory f_SM_isWord
  by_cases hd : f_MO_no xa 95 = 0
  · rw [rb0 (by rw [wiNo hd]; decide), if_pos rfl, if_pos hd]
    refine ⟨up33v (b := b) 0, fun _ => ?_, h.thr⟩
    show a iWO xa.toNatClampNeg = (if up b 29 33 0 29 33 = 0 then (up b 29 33 0) i_memory xa.toNatClampNeg else 0)
    rw [if_pos (up33v 0), up_row (by decide)]
    exact (h.1.mem _ (vin_lt (no95 hd))).symm
  · rw [rb1 (wiNo0 hd), if_neg k1n, if_neg hd]
    exact ⟨up33v (b := b) 1, fun e => absurd e k1n, h.thr⟩
end SIM7
