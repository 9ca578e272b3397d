/-! THE TWO SIDES: the rest of the face but boot -/
section SIM8
variable {a0 b0 a b : St} {o : Option Nat}
theorem Ic.tpUp {σ : St} {k : Nat} {v : Int32} (h : Ic σ) (hv : vp_in v 4) : Ic (up σ 7 k v) := by
  obtain ⟨h1, h2, h3, h4⟩ := h
  refine ⟨fun p hp => by rw [up_row (show iP p ≠ 7 by unfold iP; omega)]; exact h1 p hp, by rw [up_row (by decide)]; exact h2, by rw [up_row (by decide)]; exact h3, fun w hw => ?_⟩
  rw [up_at]
  split
  · exact vp_in_iff.mp hv
  · exact h4 w hw
theorem Ic.szUp {σ : St} {v : Int32} (h : Ic σ) (hv : 0 ≤ v.toInt ∧ v.toInt ≤ 6) : Ic (up σ 6 2 v) := by
  obtain ⟨h1, h2, h3, h4⟩ := h
  refine ⟨fun p hp => by rw [up_row (show iP p ≠ 6 by unfold iP; omega)]; exact h1 p hp, ?_, by rw [up_slot (by decide)]; exact h3, fun w hw => by rw [up_row (by decide)]; exact h4 w hw⟩
  rw [up_at, if_pos ⟨rfl, rfl⟩]; exact hv
theorem Ic.regUp {σ : St} {q : Nat} {x y : Int32} (h : Ic σ) (hx : 0 ≤ x.toInt) (hy : 0 ≤ y.toInt) (hy2 : y.toInt ≤ 32) (hs : x.toInt + y.toInt ≤ 96) : Ic (up (up σ (iP q) 1 x) (iP q) 2 y) := by
  obtain ⟨h1, h2, h3, h4⟩ := h
  refine ⟨fun p hp => ?_, ?_, ?_, fun w hw => ?_⟩
  · by_cases e : p = q
    · subst e
      rw [up_slot (by decide), up_slot (by decide), up_slot (by decide), up_at, if_pos ⟨rfl, rfl⟩, up_at, if_pos ⟨rfl, rfl⟩]
      exact ⟨(h1 p hp).1, hx, hy, hy2, hs⟩
    · have e2 : iP p ≠ iP q := by unfold iP; omega
      rw [up_row e2, up_row e2]
      exact h1 p hp
  · rw [up_row (show iTT ≠ iP q by unfold iTT iP; omega), up_row (show iTT ≠ iP q by unfold iTT iP; omega)]; exact h2
  · rw [up_row (show iTT ≠ iP q by unfold iTT iP; omega), up_row (show iTT ≠ iP q by unfold iTT iP; omega)]; exact h3
  · rw [up_row (show iTP ≠ iP q by unfold iTP iP; omega), up_row (show iTP ≠ iP q by unfold iTP iP; omega)]; exact h4 w hw
theorem cWin (xa xb : Int32) : ((if (f_SM_isPartition xa) = 0 then 0 else (if (f_SM_within xb 1 20) = 0 then 0 else 1)) : Int32) = 0 ↔ ¬ ((if (f_MO_no xa 3) = 0 then (if xb < 1 then 1 else (if xb ≤ 20 then 0 else 1)) else 1) : Int32) = 0 := by
  unfold f_SM_isPartition
  simp only [within0 xb, le_not (x := xb)]
  by_cases h1 : f_MO_no xa 3 = 0
  · by_cases h5 : xb < 1
    · simp [wiNo h1, h1, h5]
    · by_cases h6 : xb ≤ 20
      · simp [wiNo h1, h1, h5, h6]
      · simp [wiNo h1, h1, h5, h6]
  · simp [wiNo0 h1, h1]
theorem S_window (h : Rt a0 b0 a b) (xa xb : Int32) : Sf a0 b0 (f_SM_window xa xb a).1 (f_SM_window xa xb a) (f_MO_window xa xb b).1 (f_MO_window xa xb b).2 := by
  unfold f_SM_window f_MO_window
  by_cases hd : ((if (f_MO_no xa 3) = 0 then (if xb < 1 then 1 else (if xb ≤ 20 then 0 else 1)) else 1) : Int32) = 0
  · rw [rb0 (fun e => (cWin xa xb).mp e hd), if_pos rfl]
    by_cases hb : b 29 24 = 0
    · rw [set_ok1 hd hb, if_neg (show ¬ ((1 : Int32), up b 29 33 0).1 = 0 from k1n), if_pos (nowA h hb)]
      have e26 : b 29 26 = a 6 2 := h.1.sc 6 2 26 gmSize
      have ts := h.1.ic.ts
      rw [show a iTT 2 = b 29 26 from e26.symm] at ts ⊢
      have o26 : up b 29 33 0 29 26 = b 29 26 := up_slot (by decide)
      obtain ⟨n, hn, en⟩ := nI_of (nlt0 ts.1)
      rw [en, nI_toInt hn] at ts
      by_cases q : n = 6
      · subst q
        rw [if_pos (show (6 : Int32) ≤ b 29 26 by rw [en]; decide), rw1 rfl, if_neg k2n, if_pos (show up b 29 33 0 29 26 = 6 by rw [o26, en]; rfl)]
        have e : up (up b 29 33 0) 29 33 2 = up b 29 33 2 := by
          funext j k; simp only [up_at]; split <;> rfl
        exact Sf.bad 2 h k2n rfl e
      · have q6 : ¬ (6 : Int32) ≤ b 29 26 := by
          rw [en]
          exact fun e => by have := (nIle (n := 6) (by omega) (by omega)).mp e; omega
        have q6' : ¬ (6 : Int32) ≤ a iTT 2 := by rw [show a iTT 2 = b 29 26 from e26.symm]; exact q6
        rw [if_neg q6, rw0 k1n, if_pos rfl, if_neg (show ¬ up b 29 33 0 29 26 = 6 by rw [o26, en]; exact fun e => q ((nIeq (j := 6) (by omega) (by omega)).mp e))]
        have hx3 : vp_in xa 4 := no3 (ifz1 hd).1
        have hxb : 1 ≤ xb.toInt := by
          have h2 := (ifz1 hd).2
          by_cases z : xb < 1
          · rw [if_pos z] at h2; exact absurd h2 (by decide)
          · rw [ilt] at z
            have z1 : (1 : Int32).toInt = 1 := by decide
            omega
        have ea : f_TT_append xa xb a = up (up (up a 7 n xa) 8 n xb) 6 2 (nI n + 1) := by
          unfold f_TT_append
          rw [if_neg q6', show a iTT 2 = nI n from by rw [← en]; exact e26.symm, nI_clamp hn, show (up a iTP n xa) iTT 2 = nI n from by rw [up_row (by decide), ← en]; exact e26.symm, nI_clamp hn, show (up (up a iTP n xa) iTL n xb) iTT 2 = nI n from by rw [up_row (by decide), up_row (by decide), ← en]; exact e26.symm]
        have m1 : (up b 29 33 0) iMO 26 = nI n := by rw [← en]; exact o26
        have m2 : (up (up b 29 33 0) i_owner n xa) iMO 26 = nI n := by rw [up_row (by decide)]; exact m1
        have m3 : (up (up (up b 29 33 0) i_owner n xa) i_length n xb) iMO 26 = nI n := by rw [up_row (by decide)]; exact m2
        have hn1 : (nI n + 1).toInt = (n : Int) + 1 := by rw [show nI n + 1 = nI (n + 1) from nI_add n 1, nI_toInt (by omega)]; omega
        have g1 := (h.thr (v := 0)).1.upTP (v := xa) (w := n) (by omega) (Ic.tpUp h.1.ic hx3)
        have g2 := g1.upTL (v := xb) (w := n) (by omega)
        have g3 := g2.upG (v := nI n + 1) gmSize (Ic.szUp g2.ic (by rw [hn1]; omega))
        refine ⟨?_, fun _ => ?_, Rt.mk0 ?_ ⟨fun w hw h1 => ?_, fun h1 => ?_⟩ ?_⟩
        · dsimp only
          rw [m1, nI_clamp hn, m2, nI_clamp hn, m3, up_slot (by decide), up_row (by decide), up_row (by decide), up33v]
        · dsimp only
          rw [ea, m1, nI_clamp hn, m2, nI_clamp hn, m3, up_at, if_pos ⟨rfl, rfl⟩, up_at, if_pos ⟨rfl, rfl⟩]
        · dsimp only
          rw [ea, m1, nI_clamp hn, m2, nI_clamp hn, m3]
          exact g3
        · dsimp only at h1 ⊢
          rw [m1, nI_clamp hn, m2, nI_clamp hn, m3] at h1 ⊢
          rw [up_at, if_pos ⟨rfl, rfl⟩, hn1] at h1
          rw [up_row (by decide), up_at]
          split
          · exact hxb
          · rename_i q9
            rw [up_row (by decide), up_row (by decide)]
            have q8 : w ≠ n := fun e => q9 ⟨rfl, e⟩
            exact h.2.1.1 w hw (by rw [en, nI_toInt hn]; omega)
        · exfalso
          dsimp only at h1
          rw [m1, nI_clamp hn, m2, nI_clamp hn, m3, up_slot (by decide), up_row (by decide), up_row (by decide), up_slot (by decide)] at h1
          exact h1 hb
        · dsimp only
          rw [m1, nI_clamp hn, m2, nI_clamp hn, m3, up_slot (by decide), up_row (by decide), up_row (by decide), up_slot (by decide)]
          exact hb
    · rw [rw1 (by rw [if_neg (nowB h hb)]), if_neg k2n, set_now hd hb, if_pos rfl]
      exact Sf.bad 2 h k2n rfl rfl
  · rw [rb1 ((cWin xa xb).mpr hd), if_neg k1n, set_bad hd, if_pos rfl]
    exact Sf.bad 1 h k1n rfl rfl
theorem S_count (h : Rt a0 b0 a b) (xa : Int32) : (f_MO_count xa b).1 = f_SM_count xa a ∧ Rt a0 b0 a (f_MO_count xa b).2 := by
  have o24 : up b iMO 33 0 iMO 24 = a iSM 2 := by rw [up_slot (by decide)]; exact h.boo
  have o29 : up b iMO 33 0 iMO 29 = a iMA 5 := by rw [up_slot (by decide)]; exact h.1.sc 1 5 29 gmTime
  have o27 : up b iMO 33 0 iMO 27 = a iTT 3 := by rw [up_slot (by decide)]; exact h.1.sc 6 3 27 gmCur
  have o28 : up b iMO 33 0 iMO 28 = a iTT 4 := by rw [up_slot (by decide)]; exact h.1.sc 6 4 28 gmLeft
  have o30 : up b iMO 33 0 iMO 30 = a iSM 4 := by rw [up_slot (by decide)]; exact h.1.sc 0 4 30 gmLog
  have o31 : up b iMO 33 0 iMO 31 = a iTT 5 := by rw [up_slot (by decide)]; exact h.1.sc 6 5 31 gmBegun
  have o26 : up b iMO 33 0 iMO 26 = a iTT 2 := by rw [up_slot (by decide)]; exact h.1.sc 6 2 26 gmSize
  have o32 : up b iMO 33 0 iMO 32 = a iSM 3 := by rw [up_slot (by decide)]; exact h.1.sc 0 3 32 gmBoots
  have hr : Rt a0 b0 a (up b iMO 33 0) := h.thr
  have fin : ∀ (F : Int32 × St) (v w : Int32), F = (v, up b iMO 33 0) → w = v → F.1 = w ∧ Rt a0 b0 a F.2 := by
    intro F v w h1 h2
    subst h1; subst h2
    exact ⟨rfl, hr⟩
  unfold f_MO_count f_SM_count
  rw [o24, o29, o27, o28, o30, o31, o26, o32]
  generalize up b iMO 33 0 = s1 at fin ⊢
  clear o24 o29 o27 o28 o30 o31 o26 o32
  by_cases q0 : xa = 0
  · subst q0
    refine fin _ (if a iSM 2 = 0 then 0 else 1) _ (by rw [if_pos (show (0 : Int32) < 1 by decide), if_pos (show (0 : Int32) = 0 by decide)]) (by rw [if_pos (show (0 : Int32) = 0 by decide)])
  by_cases q1 : xa = 1
  · subst q1
    by_cases hb : a iSM 2 = 0
    · refine fin _ 0 _ (by rw [if_neg (show ¬ (1 : Int32) < 1 by decide), if_neg (show ¬ (5 : Int32) < 1 by decide), if_pos hb]) (by rw [if_neg (show ¬ (1 : Int32) = 0 by decide), if_pos (show (1 : Int32) = 1 by decide), if_pos hb])
    · refine fin _ (a iMA 5) _ (by rw [if_neg (show ¬ (1 : Int32) < 1 by decide), if_neg (show ¬ (5 : Int32) < 1 by decide), if_neg hb, if_neg (show ¬ (1 : Int32) = 0 by decide), if_pos (show (1 : Int32) = 1 by decide)]) (by rw [if_neg (show ¬ (1 : Int32) = 0 by decide), if_pos (show (1 : Int32) = 1 by decide), if_neg hb])
  by_cases q2 : xa = 2
  · subst q2
    by_cases hb : a iSM 2 = 0
    · refine fin _ 0 _ (by rw [if_neg (show ¬ (2 : Int32) < 1 by decide), if_neg (show ¬ (5 : Int32) < 2 by decide), if_pos hb]) (by rw [if_neg (show ¬ (2 : Int32) = 0 by decide), if_neg (show ¬ (2 : Int32) = 1 by decide), if_pos (show (2 : Int32) = 2 by decide), if_pos hb])
    · refine fin _ (a iTT 3) _ (by rw [if_neg (show ¬ (2 : Int32) < 1 by decide), if_neg (show ¬ (5 : Int32) < 2 by decide), if_neg hb, if_neg (show ¬ (2 : Int32) = 0 by decide), if_neg (show ¬ (2 : Int32) = 1 by decide), if_pos (show (2 : Int32) = 2 by decide)]) (by rw [if_neg (show ¬ (2 : Int32) = 0 by decide), if_neg (show ¬ (2 : Int32) = 1 by decide), if_pos (show (2 : Int32) = 2 by decide), if_neg hb])
  by_cases q3 : xa = 3
  · subst q3
    by_cases hb : a iSM 2 = 0
    · refine fin _ 0 _ (by rw [if_neg (show ¬ (3 : Int32) < 1 by decide), if_neg (show ¬ (5 : Int32) < 3 by decide), if_pos hb]) (by rw [if_neg (show ¬ (3 : Int32) = 0 by decide), if_neg (show ¬ (3 : Int32) = 1 by decide), if_neg (show ¬ (3 : Int32) = 2 by decide), if_pos (show (3 : Int32) = 3 by decide), if_pos hb])
    · refine fin _ (a iTT 4) _ (by rw [if_neg (show ¬ (3 : Int32) < 1 by decide), if_neg (show ¬ (5 : Int32) < 3 by decide), if_neg hb, if_neg (show ¬ (3 : Int32) = 0 by decide), if_neg (show ¬ (3 : Int32) = 1 by decide), if_neg (show ¬ (3 : Int32) = 2 by decide), if_pos (show (3 : Int32) = 3 by decide)]) (by rw [if_neg (show ¬ (3 : Int32) = 0 by decide), if_neg (show ¬ (3 : Int32) = 1 by decide), if_neg (show ¬ (3 : Int32) = 2 by decide), if_pos (show (3 : Int32) = 3 by decide), if_neg hb])
  by_cases q4 : xa = 4
  · subst q4
    by_cases hb : a iSM 2 = 0
    · refine fin _ 0 _ (by rw [if_neg (show ¬ (4 : Int32) < 1 by decide), if_neg (show ¬ (5 : Int32) < 4 by decide), if_pos hb]) (by rw [if_neg (show ¬ (4 : Int32) = 0 by decide), if_neg (show ¬ (4 : Int32) = 1 by decide), if_neg (show ¬ (4 : Int32) = 2 by decide), if_neg (show ¬ (4 : Int32) = 3 by decide), if_pos (show (4 : Int32) = 4 by decide), if_pos hb])
    · refine fin _ (a iSM 4) _ (by rw [if_neg (show ¬ (4 : Int32) < 1 by decide), if_neg (show ¬ (5 : Int32) < 4 by decide), if_neg hb, if_neg (show ¬ (4 : Int32) = 0 by decide), if_neg (show ¬ (4 : Int32) = 1 by decide), if_neg (show ¬ (4 : Int32) = 2 by decide), if_neg (show ¬ (4 : Int32) = 3 by decide), if_pos (show (4 : Int32) = 4 by decide)]) (by rw [if_neg (show ¬ (4 : Int32) = 0 by decide), if_neg (show ¬ (4 : Int32) = 1 by decide), if_neg (show ¬ (4 : Int32) = 2 by decide), if_neg (show ¬ (4 : Int32) = 3 by decide), if_pos (show (4 : Int32) = 4 by decide), if_neg hb])
  by_cases q5 : xa = 5
  · subst q5
    by_cases hb : a iSM 2 = 0
    · refine fin _ 0 _ (by rw [if_neg (show ¬ (5 : Int32) < 1 by decide), if_neg (show ¬ (5 : Int32) < 5 by decide), if_pos hb]) (by rw [if_neg (show ¬ (5 : Int32) = 0 by decide), if_neg (show ¬ (5 : Int32) = 1 by decide), if_neg (show ¬ (5 : Int32) = 2 by decide), if_neg (show ¬ (5 : Int32) = 3 by decide), if_neg (show ¬ (5 : Int32) = 4 by decide), if_pos (show (5 : Int32) = 5 by decide), if_pos hb])
    · refine fin _ (a iTT 5) _ (by rw [if_neg (show ¬ (5 : Int32) < 1 by decide), if_neg (show ¬ (5 : Int32) < 5 by decide), if_neg hb, if_neg (show ¬ (5 : Int32) = 0 by decide), if_neg (show ¬ (5 : Int32) = 1 by decide), if_neg (show ¬ (5 : Int32) = 2 by decide), if_neg (show ¬ (5 : Int32) = 3 by decide), if_neg (show ¬ (5 : Int32) = 4 by decide), if_pos (show (5 : Int32) = 5 by decide)]) (by rw [if_neg (show ¬ (5 : Int32) = 0 by decide), if_neg (show ¬ (5 : Int32) = 1 by decide), if_neg (show ¬ (5 : Int32) = 2 by decide), if_neg (show ¬ (5 : Int32) = 3 by decide), if_neg (show ¬ (5 : Int32) = 4 by decide), if_pos (show (5 : Int32) = 5 by decide), if_neg hb])
  by_cases q6 : xa = 6
  · subst q6
    refine fin _ (a iTT 2) _ (by rw [if_neg (show ¬ (6 : Int32) < 1 by decide), if_pos (show (5 : Int32) < 6 by decide), if_neg (show ¬ (6 : Int32) = 0 by decide), if_neg (show ¬ (6 : Int32) = 1 by decide), if_neg (show ¬ (6 : Int32) = 2 by decide), if_neg (show ¬ (6 : Int32) = 3 by decide), if_neg (show ¬ (6 : Int32) = 4 by decide), if_neg (show ¬ (6 : Int32) = 5 by decide), if_pos (show (6 : Int32) = 6 by decide)]) (by rw [if_neg (show ¬ (6 : Int32) = 0 by decide), if_neg (show ¬ (6 : Int32) = 1 by decide), if_neg (show ¬ (6 : Int32) = 2 by decide), if_neg (show ¬ (6 : Int32) = 3 by decide), if_neg (show ¬ (6 : Int32) = 4 by decide), if_neg (show ¬ (6 : Int32) = 5 by decide), if_pos (show (6 : Int32) = 6 by decide)])
  by_cases q7 : xa = 7
  · subst q7
    refine fin _ (a iSM 3) _ (by rw [if_neg (show ¬ (7 : Int32) < 1 by decide), if_pos (show (5 : Int32) < 7 by decide), if_neg (show ¬ (7 : Int32) = 0 by decide), if_neg (show ¬ (7 : Int32) = 1 by decide), if_neg (show ¬ (7 : Int32) = 2 by decide), if_neg (show ¬ (7 : Int32) = 3 by decide), if_neg (show ¬ (7 : Int32) = 4 by decide), if_neg (show ¬ (7 : Int32) = 5 by decide), if_neg (show ¬ (7 : Int32) = 6 by decide), if_pos (show (7 : Int32) = 7 by decide)]) (by rw [if_neg (show ¬ (7 : Int32) = 0 by decide), if_neg (show ¬ (7 : Int32) = 1 by decide), if_neg (show ¬ (7 : Int32) = 2 by decide), if_neg (show ¬ (7 : Int32) = 3 by decide), if_neg (show ¬ (7 : Int32) = 4 by decide), if_neg (show ¬ (7 : Int32) = 5 by decide), if_neg (show ¬ (7 : Int32) = 6 by decide), if_pos (show (7 : Int32) = 7 by decide)])
  by_cases z : xa < 1
  · refine fin _ (-1) _ (by rw [if_pos z, if_neg q0, if_neg q1, if_neg q2, if_neg q3, if_neg q4, if_neg q5, if_neg q6, if_neg q7]) (by rw [if_neg q0, if_neg q1, if_neg q2, if_neg q3, if_neg q4, if_neg q5, if_neg q6, if_neg q7])
  · have z5 : 5 < xa := by
      have z0 : ¬ xa < 0 := by rw [ilt, t0i]; rw [ilt, show (1 : Int32).toInt = 1 by decide] at z; omega
      obtain ⟨j, hj, rfl⟩ := nI_of z0
      rw [ilt, nI_toInt hj, show (5 : Int32).toInt = 5 by decide]
      by_cases zz : j ≤ 5
      · exfalso
        have cs : j = 0 ∨ j = 1 ∨ j = 2 ∨ j = 3 ∨ j = 4 ∨ j = 5 := by omega
        rcases cs with rfl | rfl | rfl | rfl | rfl | rfl
        · exact q0 rfl
        · exact q1 rfl
        · exact q2 rfl
        · exact q3 rfl
        · exact q4 rfl
        · exact q5 rfl
      · omega
    refine fin _ (-1) _ (by rw [if_neg z, if_pos z5, if_neg q0, if_neg q1, if_neg q2, if_neg q3, if_neg q4, if_neg q5, if_neg q6, if_neg q7]) (by rw [if_neg q0, if_neg q1, if_neg q2, if_neg q3, if_neg q4, if_neg q5, if_neg q6, if_neg q7])
theorem cTol (xa xb m : Int32) : ((if (f_SM_isPartition xa) = 0 then 0 else (if (f_SM_within xb 0 m) = 0 then 0 else 1)) : Int32) = 0 ↔ ¬ (f_MO_no xa 3 = 0 ∧ f_MO_no xb m = 0) := by
  unfold f_SM_isPartition
  by_cases h1 : f_MO_no xa 3 = 0
  · by_cases h2 : f_MO_no xb m = 0
    · simp [wiNo h1, wiNo h2, h1, h2]
    · simp [wiNo h1, wiNo0 h2, h1, h2]
  · simp [wiNo0 h1, h1]
theorem dTol {xa xb m : Int32} : ((if (f_MO_no xa 3) = 0 then (if (f_MO_no xb m) = 0 then 0 else 1) else 1) : Int32) = if f_MO_no xa 3 = 0 ∧ f_MO_no xb m = 0 then 0 else 1 := by
  by_cases h1 : f_MO_no xa 3 = 0
  · by_cases h2 : f_MO_no xb m = 0 <;> simp [h1, h2]
  · simp [h1]
theorem S_told (h : Rt a0 b0 a b) (xa xb : Int32) : Sf a0 b0 (f_SM_told xa xb a).1 (f_SM_told xa xb a) (f_MO_told xa xb b).1 (f_MO_told xa xb b).2 := by
  unfold f_SM_told f_MO_told
  rw [dTol]
  by_cases hd : f_MO_no xa 3 = 0 ∧ f_MO_no xb 8 = 0
  · rw [rb0 (fun e => (cTol xa xb 8).mp e hd), if_pos hd]
    rw [if_pos (show up b iMO 33 0 iMO 33 = 0 from up33v 0), if_pos rfl]
    obtain ⟨p, hp, rfl⟩ := vp_in_of (no3 hd.1) (by omega)
    obtain ⟨j, hj, rfl⟩ := vp_in_of (no_i (N := 9) (by decide) hd.2) (by omega)
    rw [nIc hp]
    have r : ∀ {i : Nat}, i ≠ 29 → up b iMO 33 0 i = b i := fun hi => up_row hi
    have o24 : up b iMO 33 0 iMO 24 = a iSM 2 := by rw [up_slot (by decide)]; exact h.boo
    rw [o24, r (i := i_ready) (by decide), r (i := i_faults) (by decide), r (i := i_kind) (by decide), r (i := i_restarts) (by decide), r (i := i_begun) (by decide), r (i := i_measure) (by decide), r (i := i_policy) (by decide), r (i := i_from) (by decide), r (i := i_size) (by decide)]
    rw [show b i_ready p = _ from h.1.pt p 6 42 hp pm6, show b i_faults p = _ from h.1.pt p 10 37 hp pm10, show b i_kind p = _ from h.1.pt p 11 38 hp pm11, show b i_restarts p = _ from h.1.pt p 12 39 hp pm12, show b i_begun p = _ from h.1.pt p 13 40 hp pm13, show b i_measure p = _ from h.1.pt p 4 41 hp pm4, show b i_policy p = _ from h.1.pt p 3 35 hp pm3, show b i_from p = _ from h.1.pt p 1 33 hp pm1, show b i_size p = _ from h.1.pt p 2 34 hp pm2]
    unfold f_PT_sinceBooted
    have cs : j = 0 ∨ j = 1 ∨ j = 2 ∨ j = 3 ∨ j = 4 ∨ j = 5 ∨ j = 6 ∨ j = 7 ∨ j = 8 := by omega
    have fin : ∀ (E : Int32 × Int32 × St) (F : Int32 × St) (v : Int32), E = (0, v, a) → F = (v, up b iMO 33 0) → Sf a0 b0 E.1 E F.1 F.2 := by
      intro E F v h1 h2
      subst h1; subst h2
      exact ⟨up33v (b := b) 0, fun _ => rfl, h.thr⟩
    generalize up b iMO 33 0 = s1 at fin ⊢
    rcases cs with rfl | rfl | rfl | rfl | rfl | rfl | rfl | rfl | rfl
    · rw [show nI 0 = (0 : Int32) from rfl]
      by_cases hb : a iSM 2 = 0
      · exact fin _ _ 0 (by rw [if_neg (show ¬ (0 : Int32) = 6 by decide), if_neg (show ¬ (0 : Int32) = 7 by decide), if_neg (show ¬ (0 : Int32) = 8 by decide), if_pos hb]) (by rw [if_neg (show ¬ (6 : Int32) ≤ 0 by decide), if_pos hb])
      · exact fin _ _ ((if a (iP p) 6 = 0 then 0 else 1)) (by rw [if_neg (show ¬ (0 : Int32) = 6 by decide), if_neg (show ¬ (0 : Int32) = 7 by decide), if_neg (show ¬ (0 : Int32) = 8 by decide), if_neg hb, if_pos (show (0 : Int32) = 0 by decide)]) (by rw [if_neg (show ¬ (6 : Int32) ≤ 0 by decide), if_neg hb, if_pos (show (0 : Int32) = 0 by decide)])
    · rw [show nI 1 = (1 : Int32) from rfl]
      by_cases hb : a iSM 2 = 0
      · exact fin _ _ 0 (by rw [if_neg (show ¬ (1 : Int32) = 6 by decide), if_neg (show ¬ (1 : Int32) = 7 by decide), if_neg (show ¬ (1 : Int32) = 8 by decide), if_pos hb]) (by rw [if_neg (show ¬ (6 : Int32) ≤ 1 by decide), if_pos hb])
      · exact fin _ _ (a (iP p) 10) (by rw [if_neg (show ¬ (1 : Int32) = 6 by decide), if_neg (show ¬ (1 : Int32) = 7 by decide), if_neg (show ¬ (1 : Int32) = 8 by decide), if_neg hb, if_neg (show ¬ (1 : Int32) = 0 by decide), if_pos (show (1 : Int32) = 1 by decide)]) (by rw [if_neg (show ¬ (6 : Int32) ≤ 1 by decide), if_neg hb, if_neg (show ¬ (1 : Int32) = 0 by decide), if_pos (show (1 : Int32) = 1 by decide)])
    · rw [show nI 2 = (2 : Int32) from rfl]
      by_cases hb : a iSM 2 = 0
      · exact fin _ _ 0 (by rw [if_neg (show ¬ (2 : Int32) = 6 by decide), if_neg (show ¬ (2 : Int32) = 7 by decide), if_neg (show ¬ (2 : Int32) = 8 by decide), if_pos hb]) (by rw [if_neg (show ¬ (6 : Int32) ≤ 2 by decide), if_pos hb])
      · exact fin _ _ (a (iP p) 11) (by rw [if_neg (show ¬ (2 : Int32) = 6 by decide), if_neg (show ¬ (2 : Int32) = 7 by decide), if_neg (show ¬ (2 : Int32) = 8 by decide), if_neg hb, if_neg (show ¬ (2 : Int32) = 0 by decide), if_neg (show ¬ (2 : Int32) = 1 by decide), if_pos (show (2 : Int32) = 2 by decide)]) (by rw [if_neg (show ¬ (6 : Int32) ≤ 2 by decide), if_neg hb, if_neg (show ¬ (2 : Int32) = 0 by decide), if_neg (show ¬ (2 : Int32) = 1 by decide), if_pos (show (2 : Int32) = 2 by decide)])
    · rw [show nI 3 = (3 : Int32) from rfl]
      by_cases hb : a iSM 2 = 0
      · exact fin _ _ 0 (by rw [if_neg (show ¬ (3 : Int32) = 6 by decide), if_neg (show ¬ (3 : Int32) = 7 by decide), if_neg (show ¬ (3 : Int32) = 8 by decide), if_pos hb]) (by rw [if_neg (show ¬ (6 : Int32) ≤ 3 by decide), if_pos hb])
      · exact fin _ _ (a (iP p) 12) (by rw [if_neg (show ¬ (3 : Int32) = 6 by decide), if_neg (show ¬ (3 : Int32) = 7 by decide), if_neg (show ¬ (3 : Int32) = 8 by decide), if_neg hb, if_neg (show ¬ (3 : Int32) = 0 by decide), if_neg (show ¬ (3 : Int32) = 1 by decide), if_neg (show ¬ (3 : Int32) = 2 by decide), if_pos (show (3 : Int32) = 3 by decide)]) (by rw [if_neg (show ¬ (6 : Int32) ≤ 3 by decide), if_neg hb, if_neg (show ¬ (3 : Int32) = 0 by decide), if_neg (show ¬ (3 : Int32) = 1 by decide), if_neg (show ¬ (3 : Int32) = 2 by decide), if_pos (show (3 : Int32) = 3 by decide)])
    · rw [show nI 4 = (4 : Int32) from rfl]
      by_cases hb : a iSM 2 = 0
      · exact fin _ _ 0 (by rw [if_neg (show ¬ (4 : Int32) = 6 by decide), if_neg (show ¬ (4 : Int32) = 7 by decide), if_neg (show ¬ (4 : Int32) = 8 by decide), if_pos hb]) (by rw [if_neg (show ¬ (6 : Int32) ≤ 4 by decide), if_pos hb])
      · exact fin _ _ (a (iP p) 13) (by rw [if_neg (show ¬ (4 : Int32) = 6 by decide), if_neg (show ¬ (4 : Int32) = 7 by decide), if_neg (show ¬ (4 : Int32) = 8 by decide), if_neg hb, if_neg (show ¬ (4 : Int32) = 0 by decide), if_neg (show ¬ (4 : Int32) = 1 by decide), if_neg (show ¬ (4 : Int32) = 2 by decide), if_neg (show ¬ (4 : Int32) = 3 by decide), if_pos (show (4 : Int32) = 4 by decide)]) (by rw [if_neg (show ¬ (6 : Int32) ≤ 4 by decide), if_neg hb, if_neg (show ¬ (4 : Int32) = 0 by decide), if_neg (show ¬ (4 : Int32) = 1 by decide), if_neg (show ¬ (4 : Int32) = 2 by decide), if_neg (show ¬ (4 : Int32) = 3 by decide), if_pos (show (4 : Int32) = 4 by decide)])
    · rw [show nI 5 = (5 : Int32) from rfl]
      by_cases hb : a iSM 2 = 0
      · exact fin _ _ 0 (by rw [if_neg (show ¬ (5 : Int32) = 6 by decide), if_neg (show ¬ (5 : Int32) = 7 by decide), if_neg (show ¬ (5 : Int32) = 8 by decide), if_pos hb]) (by rw [if_neg (show ¬ (6 : Int32) ≤ 5 by decide), if_pos hb])
      · exact fin _ _ (a (iP p) 4) (by rw [if_neg (show ¬ (5 : Int32) = 6 by decide), if_neg (show ¬ (5 : Int32) = 7 by decide), if_neg (show ¬ (5 : Int32) = 8 by decide), if_neg hb, if_neg (show ¬ (5 : Int32) = 0 by decide), if_neg (show ¬ (5 : Int32) = 1 by decide), if_neg (show ¬ (5 : Int32) = 2 by decide), if_neg (show ¬ (5 : Int32) = 3 by decide), if_neg (show ¬ (5 : Int32) = 4 by decide)]) (by rw [if_neg (show ¬ (6 : Int32) ≤ 5 by decide), if_neg hb, if_neg (show ¬ (5 : Int32) = 0 by decide), if_neg (show ¬ (5 : Int32) = 1 by decide), if_neg (show ¬ (5 : Int32) = 2 by decide), if_neg (show ¬ (5 : Int32) = 3 by decide), if_neg (show ¬ (5 : Int32) = 4 by decide), if_pos (show (5 : Int32) = 5 by decide)])
    · rw [show nI 6 = (6 : Int32) from rfl]
      exact fin _ _ (a (iP p) 3) (by rw [if_pos (show (6 : Int32) = 6 by decide)]) (by rw [if_pos (show (6 : Int32) ≤ 6 by decide), if_neg (show ¬ (6 : Int32) = 0 by decide), if_neg (show ¬ (6 : Int32) = 1 by decide), if_neg (show ¬ (6 : Int32) = 2 by decide), if_neg (show ¬ (6 : Int32) = 3 by decide), if_neg (show ¬ (6 : Int32) = 4 by decide), if_neg (show ¬ (6 : Int32) = 5 by decide), if_pos (show (6 : Int32) = 6 by decide)])
    · rw [show nI 7 = (7 : Int32) from rfl]
      exact fin _ _ (a (iP p) 1) (by rw [if_neg (show ¬ (7 : Int32) = 6 by decide), if_pos (show (7 : Int32) = 7 by decide)]) (by rw [if_pos (show (6 : Int32) ≤ 7 by decide), if_neg (show ¬ (7 : Int32) = 0 by decide), if_neg (show ¬ (7 : Int32) = 1 by decide), if_neg (show ¬ (7 : Int32) = 2 by decide), if_neg (show ¬ (7 : Int32) = 3 by decide), if_neg (show ¬ (7 : Int32) = 4 by decide), if_neg (show ¬ (7 : Int32) = 5 by decide), if_neg (show ¬ (7 : Int32) = 6 by decide), if_pos (show (7 : Int32) = 7 by decide)])
    · rw [show nI 8 = (8 : Int32) from rfl]
      exact fin _ _ (a (iP p) 2) (by rw [if_neg (show ¬ (8 : Int32) = 6 by decide), if_neg (show ¬ (8 : Int32) = 7 by decide), if_pos (show (8 : Int32) = 8 by decide)]) (by rw [if_pos (show (6 : Int32) ≤ 8 by decide), if_neg (show ¬ (8 : Int32) = 0 by decide), if_neg (show ¬ (8 : Int32) = 1 by decide), if_neg (show ¬ (8 : Int32) = 2 by decide), if_neg (show ¬ (8 : Int32) = 3 by decide), if_neg (show ¬ (8 : Int32) = 4 by decide), if_neg (show ¬ (8 : Int32) = 5 by decide), if_neg (show ¬ (8 : Int32) = 6 by decide), if_neg (show ¬ (8 : Int32) = 7 by decide)])
  · rw [rb1 ((cTol xa xb 8).mpr hd), if_neg hd, if_neg (show ¬ up b iMO 33 1 iMO 33 = 0 by rw [show up b iMO 33 1 iMO 33 = 1 from up33v 1]; decide)]
    rw [if_neg k1n]
    exact Sf.bad 1 h k1n rfl rfl
theorem cObj (xa xb m : Int32) : ((if (f_SM_isChannel xa) = 0 then 0 else (if (f_SM_within xb 0 m) = 0 then 0 else 1)) : Int32) = 0 ↔ ¬ (f_MO_no xa 3 = 0 ∧ f_MO_no xb m = 0) := cTol xa xb m
theorem S_object (h : Rt a0 b0 a b) (xa xb : Int32) : Sf a0 b0 (f_SM_object xa xb a).1 (f_SM_object xa xb a) (f_MO_object xa xb b).1 (f_MO_object xa xb b).2 := by
  unfold f_SM_object f_MO_object
  rw [dTol]
  by_cases hd : f_MO_no xa 3 = 0 ∧ f_MO_no xb 3 = 0
  · rw [rb0 (fun e => (cObj xa xb 3).mp e hd), if_pos hd]
    rw [if_pos (show up b iMO 33 0 iMO 33 = 0 from up33v 0), if_pos rfl]
    obtain ⟨p, hp, rfl⟩ := vp_in_of (no3 hd.1) (by omega)
    rw [nIc hp]
    have r : ∀ {i : Nat}, i ≠ 29 → up b iMO 33 0 i = b i := fun hi => up_row hi
    rw [r (i := i_full) (by decide), r (i := i_value) (by decide), r (i := i_hour) (by decide), r (i := i_holds) (by decide), r (i := i_seal) (by decide)]
    rw [show b i_full p = _ from h.1.ch p 3 43 hp cm3, show b i_value p = _ from h.1.ch p 4 49 hp cm4, show b i_hour p = _ from h.1.ch p 5 50 hp cm5, show b i_holds p = _ from h.1.sl p 0 51 hp sm0, show b i_seal p = _ from h.1.sl p 1 52 hp sm1]
    unfold f_CH_valueOrZero f_CH_hourOrNone
    by_cases q0 : xb = 0
    · rw [if_pos q0, if_pos q0]; exact ⟨up33v (b := b) 0, fun _ => rfl, h.thr⟩
    rw [if_neg q0, if_neg q0]
    by_cases q1 : xb = 1
    · rw [if_pos q1, if_pos q1]; exact ⟨up33v (b := b) 0, fun _ => rfl, h.thr⟩
    rw [if_neg q1, if_neg q1]
    by_cases q2 : xb = 2
    · rw [if_pos q2, if_pos q2]; exact ⟨up33v (b := b) 0, fun _ => rfl, h.thr⟩
    rw [if_neg q2, if_neg q2]; exact ⟨up33v (b := b) 0, fun _ => rfl, h.thr⟩
  · rw [rb1 ((cObj xa xb 3).mpr hd), if_neg hd, if_neg (show ¬ up b iMO 33 1 iMO 33 = 0 by rw [show up b iMO 33 1 iMO 33 = 1 from up33v 1]; decide)]
    rw [if_neg k1n]
    exact Sf.bad 1 h k1n rfl rfl
end SIM8
