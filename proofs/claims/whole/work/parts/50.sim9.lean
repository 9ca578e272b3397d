/-! THE TWO SIDES: region -/
section SIM9
variable {a0 b0 a b : St} {o : Option Nat}
theorem rg3 (xa xb xc : Int32) : ∀ (k i : Nat) (b : St), 5 ≤ k + i → i ≤ 4 → b 29 33 = 3 → lp_MO_region_53 xa xb xc k (nI i) b = b := by
  intro k
  induction k with
  | zero => intro i b h1 h2 h3; omega
  | succ k ih =>
    intro i b h1 h2 h3
    have e : up b iMO 33 3 = b := by
      funext j l; rw [up_at]; split
      · rename_i q; rw [q.1, q.2]; exact h3.symm
      · rfl
    simp only [lp_MO_region_53]
    rw [e]
    by_cases q : i = 4
    · subst q
      rw [if_pos (by decide), if_neg (by rw [show b iMO 33 = 3 from h3]; decide)]
    · have q' : ¬ (4 : Int32) ≤ nI i := fun e => by have := (nIle (n := 4) (by omega) (by omega)).mp e; omega
      rw [if_neg q', show nI i + 1 = nI (i + 1) from nI_add i 1, ih (i + 1) b (by omega) (by omega) h3]
      simp
theorem ovl_eq (xa xb xc : Int32) (k9 : Nat) (i4 : Int32) (σ : St) : lp_MA_overlapsAnother_3 xa xb xc (k9 + 1) i4 σ = (if 4 ≤ i4 then 0 else (if i4 = xa then (lp_MA_overlapsAnother_3 xa xb xc k9 (i4 + 1) σ) else (if (f_PT_overlaps (i4).toNatClampNeg xb xc σ) = 0 then (lp_MA_overlapsAnother_3 xa xb xc k9 (i4 + 1) σ) else 1))) := rfl
theorem rgl (xa xb xc : Int32) (h : Re a0 b0 o a b) : ∀ (k i : Nat), 5 ≤ k + i → i ≤ 4 → b 29 33 = 0 → lp_MO_region_53 xa xb xc k (nI i) b = if lp_MA_overlapsAnother_3 xa xb xc k (nI i) a = 0 then up (up b 33 xa.toNatClampNeg xb) 34 xa.toNatClampNeg xc else up b 29 33 3 := by
  intro k
  induction k with
  | zero => intro i h1 h2 h3; omega
  | succ k ih =>
    intro i h1 h2 h3
    rw [ovl_eq]
    simp only [lp_MO_region_53]
    by_cases q : i = 4
    · subst q
      rw [if_pos (by decide), if_pos (show b iMO 33 = 0 from h3), if_pos (show (4 : Int32) ≤ nI 4 by decide), if_pos rfl]
    · have q' : ¬ (4 : Int32) ≤ nI i := fun e => by have := (nIle (n := 4) (by omega) (by omega)).mp e; omega
      rw [if_neg q', if_neg q', show nI i + 1 = nI (i + 1) from nI_add i 1]
      by_cases qa : nI i = xa
      · rw [if_pos qa, if_pos qa]
        exact ih (i + 1) (by omega) (by omega) h3
      · rw [if_neg qa, if_neg qa, nI_clamp (by omega)]
        have e1 : b i_from i = a (iP i) 1 := h.pt i 1 33 (by omega) pm1
        have e2 : b i_size i = a (iP i) 2 := h.pt i 2 34 (by omega) pm2
        rw [e1, e2]
        unfold f_PT_overlaps
        by_cases c1 : a (iP i) 2 ≤ 0
        · rw [if_pos c1, if_pos c1, if_pos rfl, ite_self]
          exact ih (i + 1) (by omega) (by omega) h3
        · rw [if_neg c1, if_neg c1]
          by_cases c2 : xc ≤ 0
          · rw [if_pos c2, if_pos c2, if_pos rfl]
            exact ih (i + 1) (by omega) (by omega) h3
          · rw [if_neg c2, if_neg c2]
            by_cases c3 : (xb + xc) ≤ a (iP i) 1
            · rw [if_pos c3, if_pos c3, if_pos rfl, ite_self]
              exact ih (i + 1) (by omega) (by omega) h3
            · rw [if_neg c3, if_neg c3]
              by_cases c4 : (a (iP i) 1 + a (iP i) 2) ≤ xb
              · rw [if_pos c4, if_pos c4, if_pos rfl]
                exact ih (i + 1) (by omega) (by omega) h3
              · rw [if_neg c4, if_neg c4, if_neg k1n, if_neg k1n]
                exact rg3 xa xb xc k (i + 1) _ (by omega) (by omega) (up33v 3)
theorem cRgn (xa xb xc : Int32) : ((if (f_SM_isPartition xa) = 0 then 0 else (if (f_SM_within xb 0 95) = 0 then 0 else (if (f_SM_within xc 0 32) = 0 then 0 else (if 96 < (xb + xc) then 0 else 1)))) : Int32) = 0 ↔ ¬ ((if (f_MO_no xa 3) = 0 then (if (f_MO_no xb 95) = 0 then (if (f_MO_no xc 32) = 0 then (if (xb + xc) ≤ 96 then 0 else 1) else 1) else 1) else 1) : Int32) = 0 := by
  unfold f_SM_isPartition
  simp only [le_not (x := xb + xc)]
  by_cases h1 : f_MO_no xa 3 = 0
  · by_cases h2 : f_MO_no xb 95 = 0
    · by_cases h3 : f_MO_no xc 32 = 0
      · by_cases h4 : (xb + xc) ≤ 96 <;> simp [wiNo h1, wiNo h2, wiNo h3, h1, h2, h3, h4]
      · simp [wiNo h1, wiNo h2, wiNo0 h3, h1, h2, h3]
    · simp [wiNo h1, wiNo0 h2, h1, h2]
  · simp [wiNo0 h1, h1]
theorem S_region (h : Rt a0 b0 a b) (xa xb xc : Int32) : Sf a0 b0 (f_SM_region xa xb xc a).1 (f_SM_region xa xb xc a) (f_SM_region xa xb xc a).2.1 (f_MO_region xa xb xc b) := by
  unfold f_SM_region f_MO_region f_MA_overlapsAnother
  by_cases hd : ((if (f_MO_no xa 3) = 0 then (if (f_MO_no xb 95) = 0 then (if (f_MO_no xc 32) = 0 then (if (xb + xc) ≤ 96 then 0 else 1) else 1) else 1) else 1) : Int32) = 0
  · rw [rb0 (fun e => (cRgn xa xb xc).mp e hd), if_pos rfl]
    by_cases hb : b 29 24 = 0
    · rw [rw0 (by rw [if_pos (nowA h hb)]; decide), if_pos rfl, set_ok1 hd hb, if_neg (show ¬ ((1 : Int32), up b 29 33 0).1 = 0 from k1n)]
      obtain ⟨d1, d2⟩ := ifz1 hd
      obtain ⟨d3, d4⟩ := ifz1 d2
      obtain ⟨d5, d6⟩ := ifz1 d4
      have d7 : (xb + xc) ≤ 96 := Classical.byContradiction fun e => by rw [if_neg e] at d6; exact absurd d6 (by decide)
      have e := rgl xa xb xc (h.thr (v := 0)).1 5 0 (by omega) (by omega) (up33v 0)
      rw [show nI 0 = (0 : Int32) from rfl] at e
      dsimp only
      rw [e]
      by_cases q : lp_MA_overlapsAnother_3 xa xb xc 5 0 a = 0
      · rw [if_pos q, if_pos q]
        obtain ⟨p, hp, ep⟩ := vp_in_of (no3 d1) (by omega)
        obtain ⟨x, hx, ex⟩ := vp_in_of (no95 d3) (by omega)
        obtain ⟨y, hy, ey⟩ := vp_in_of (no_i (N := 33) (by decide) d5) (by omega)
        have d8 : x + y ≤ 96 := by
          rw [ex, ey, nI_add] at d7
          exact (nIle (n := x + y) (j := 96) (by omega) (by omega)).mp d7
        have hic : Ic (up (up a (iP p) 1 xb) (iP p) 2 xc) := Ic.regUp h.1.ic (by rw [ex, nI_toInt (by omega)]; omega) (by rw [ey, nI_toInt (by omega)]; omega) (by rw [ey, nI_toInt (by omega)]; omega) (by rw [ex, ey, nI_toInt (by omega), nI_toInt (by omega)]; omega)
        rw [ep, nIc hp]
        refine ⟨?_, fun _ => rfl, Rt.mk0 ((h.thr (v := 0)).1.upRegion hp hic) ((h.2.1.thr.row (by decide)).row (by decide)) ?_⟩
        · show up (up (up b 29 33 0) 33 p xb) 34 p xc 29 33 = 0
          rw [up_row (by decide), up_row (by decide), up33v]
        · show up (up (up b 29 33 0) 33 p xb) 34 p xc 29 24 = 0
          rw [up_row (by decide), up_row (by decide), up_slot (by decide)]; exact hb
      · rw [if_neg q, if_neg q]
        have e : up (up b 29 33 0) 29 33 3 = up b 29 33 3 := by
          funext j k; simp only [up_at]; split <;> rfl
        exact Sf.bad 3 h k3n rfl e
    · rw [rw1 (by rw [if_neg (nowB h hb)]), if_neg k2n, set_now hd hb, if_pos rfl]
      exact Sf.bad 2 h k2n rfl rfl
  · rw [rb1 ((cRgn xa xb xc).mpr hd), if_neg k1n, set_bad hd, if_pos rfl]
    exact Sf.bad 1 h k1n rfl rfl
end SIM9
