/-! THE TWO SIDES: what an instruction does -/
theorem pm1 : Pm 1 33 := by unfold Pm; omega
theorem pm2 : Pm 2 34 := by unfold Pm; omega
theorem pm3 : Pm 3 35 := by unfold Pm; omega
theorem pm4 : Pm 4 41 := by unfold Pm; omega
theorem pm5 : Pm 5 36 := by unfold Pm; omega
theorem pm6 : Pm 6 42 := by unfold Pm; omega
theorem pm10 : Pm 10 37 := by unfold Pm; omega
theorem pm11 : Pm 11 38 := by unfold Pm; omega
theorem pm12 : Pm 12 39 := by unfold Pm; omega
theorem pm13 : Pm 13 40 := by unfold Pm; omega
theorem cm0 : Cm 0 46 := by unfold Cm; omega
theorem cm1 : Cm 1 47 := by unfold Cm; omega
theorem cm2 : Cm 2 48 := by unfold Cm; omega
theorem cm3 : Cm 3 43 := by unfold Cm; omega
theorem cm4 : Cm 4 49 := by unfold Cm; omega
theorem cm5 : Cm 5 50 := by unfold Cm; omega
theorem sm0 : Sm 0 51 := by unfold Sm; omega
theorem sm1 : Sm 1 52 := by unfold Sm; omega
theorem gmBooted : Gm 0 2 24 := by unfold Gm; omega
theorem gmBoots : Gm 0 3 32 := by unfold Gm; omega
theorem gmLog : Gm 0 4 30 := by unfold Gm; omega
theorem gmKey : Gm 1 0 23 := by unfold Gm; omega
theorem gmTime : Gm 1 5 29 := by unfold Gm; omega
theorem gmSize : Gm 6 2 26 := by unfold Gm; omega
theorem gmCur : Gm 6 3 27 := by unfold Gm; omega
theorem gmLeft : Gm 6 4 28 := by unfold Gm; omega
theorem gmBegun : Gm 6 5 31 := by unfold Gm; omega
theorem nIle0 {j : Nat} (hj : j < 2 ^ 31) : nI j ≤ 0 ↔ j = 0 := by
  rw [ile, nI_toInt hj, t0i]; omega
theorem nIle {j n : Nat} (hj : j < 2 ^ 31) (hn : n < 2 ^ 31) : nI n ≤ nI j ↔ n ≤ j := by
  rw [ile, nI_toInt hj, nI_toInt hn]; omega
theorem nIeq {j n : Nat} (hj : j < 2 ^ 31) (hn : n < 2 ^ 31) : nI n = nI j ↔ n = j :=
  ⟨fun e => by have := congrArg Int32.toInt e; rw [nI_toInt hj, nI_toInt hn] at this; omega, fun e => by rw [e]⟩
section SIM2
variable {a0 b0 a b : St} {o : Option Nat} {p : Nat}
theorem S_get (h : Re a0 b0 o a b) (hp : p < 4) {y : Int32} (hy : vp_in y 16) : f_PT_get p y a = b 32 ((nI p * 16) + y).toNatClampNeg := by
  rw [ix16 hp hy]
  obtain ⟨j, hj, rfl⟩ := vp_in_of hy (by omega)
  rw [nI_clamp (by omega), h.reg p j hp hj]
  unfold f_PT_get
  by_cases h0 : j = 0
  · subst h0
    rw [if_pos (by decide)]
    exact (h.x0 p hp).symm
  · rw [if_neg (fun e => h0 ((nIle0 (by omega)).mp e)), if_neg (fun e => by have := (nIle (n := 16) (by omega) (by omega)).mp e; omega), nI_clamp (by omega)]
theorem S_put (h : Re a0 b0 o a b) (hp : p < 4) {y v : Int32} (hy : vp_in y 16) : Re a0 b0 o (f_PT_put p y v a) (f_MO_put (nI p) y v b) := by
  unfold f_PT_put f_MO_put
  rw [ix16 hp hy]
  obtain ⟨j, hj, rfl⟩ := vp_in_of hy (by omega)
  rw [nI_clamp (by omega)]
  by_cases h0 : j = 0
  · subst h0
    rw [if_pos (by decide), if_pos (by decide)]
    exact h
  · rw [if_neg (fun e => h0 ((nIle0 (by omega)).mp e)), if_neg (fun e => by have := (nIle (n := 16) (by omega) (by omega)).mp e; omega), if_neg (show ¬ nI j = (0 : Int32) from fun e => h0 ((nIeq (j := 0) (by omega) (by omega)).mp e))]
    exact h.upR hp hj (Or.inl h0)
theorem put_row (p : Nat) (y v : Int32) (a : St) {i : Nat} (hi : i ≠ iR p) : f_PT_put p y v a i = a i := by
  unfold f_PT_put
  split
  · rfl
  · split
    · rfl
    · exact up_row hi
theorem S_holds (h : Re a0 b0 o a b) (hp : p < 4) (x : Int32) : f_PT_holds p x a = f_MO_inside (nI p) x b := by
  unfold f_PT_holds f_SM_within f_MO_inside
  rw [nIc hp, h.pt p 2 34 hp pm2]
/-- what an instruction's part must do: the same answer, the states alike, the class's next PC left -/
def Sq (a0 b0 a : St) (p : Nat) (E F : Int32 × St) : Prop := E.1 = F.1 ∧ Re a0 b0 (some p) E.2 F.2 ∧ E.2 1 6 = a 1 6
theorem S_load (h : Re a0 b0 (some p) a b) (hp : p < 4) (x : Int32) {y : Int32} (hy : vp_in y 16) : Sq a0 b0 a p (f_MA_readInto p y x a) (f_MO_loads (nI p) x y b) := by
  have hn : ∀ v, f_PT_put p y v a 1 6 = a 1 6 := fun v => by rw [put_row _ _ _ _ (by unfold iR; omega)]
  unfold f_MA_readInto f_MO_loads
  by_cases h3 : x &&& 3 = 0
  · rw [if_pos h3, if_pos h3, S_holds h hp x]
    by_cases hi : f_MO_inside (nI p) x b = 0
    · rw [if_pos hi, if_pos hi]
      by_cases ha : f_MO_at x < 0
      · rw [if_pos ha]
        have e : f_MA_isReadable (f_MA_channelAt x) p a = 0 := by
          unfold f_MA_isReadable
          rcases chA h3 ha with q | q
          · rw [if_pos q]
          · by_cases q2 : f_MA_channelAt x < 0
            · rw [if_pos q2]
            · rw [if_neg q2, if_pos q]
        rw [if_pos e]
        exact ⟨rfl, h, rfl⟩
      · rw [if_neg ha, chB ha]
        obtain ⟨c, hc, ec⟩ := vp_in_of (at_in ha) (by omega)
        rw [ec, nI_clamp (by omega)]
        unfold f_MA_isReadable f_CH_valueOrZero
        have q2 : ¬ nI c < 0 := by rw [ilt, nI_toInt (by omega), t0i]; omega
        have q4 : ¬ (4 : Int32) ≤ nI c := fun e => by have := (nIle (n := 4) (by omega) (by omega)).mp e; omega
        rw [if_neg q2, if_neg q4, nI_clamp (by omega), h.ic.nr hp, h.ch c 1 47 hc cm1, h.ch c 3 43 hc cm3, h.ch c 4 49 hc cm4]
        by_cases hr : (sshr (a (iC c) 1) (nI p)) &&& 1 = 0
        · rw [if_pos hr, if_neg (fun e => (rd_iff hp _).mp e hr), if_pos rfl]
          exact ⟨rfl, h, rfl⟩
        · rw [if_neg hr, if_pos ((rd_iff hp _).mpr hr), if_neg (by decide)]
          exact ⟨rfl, S_put h hp hy, hn _⟩
    · rw [if_neg hi, if_neg hi]
      have hw : vp_in ((a (iP p) 1) + (x / 4)) 96 := hold_in h.ic hp (by rw [S_holds h hp x]; exact hi)
      rw [nIc hp, h.pt p 1 33 hp pm1, h.mem _ (vin_lt hw)]
      exact ⟨rfl, S_put h hp hy, hn _⟩
  · rw [if_neg h3, if_neg h3]
    exact ⟨rfl, h, rfl⟩
theorem S_store (h : Re a0 b0 (some p) a b) (hp : p < 4) (x v : Int32) : Sq a0 b0 a p (f_MA_write p x v a) (f_MO_stores (nI p) x v b) := by
  unfold f_MA_write f_MO_stores
  by_cases h3 : x &&& 3 = 0
  · rw [if_pos h3, if_pos h3, S_holds h hp x]
    by_cases hi : f_MO_inside (nI p) x b = 0
    · rw [if_pos hi, if_pos hi]
      by_cases ha : f_MO_at x < 0
      · rw [if_pos ha]
        have e : f_SM_isChannel (f_MA_channelAt x) = 0 := by
          unfold f_SM_isChannel f_SM_within
          rcases chA h3 ha with q | q
          · rw [if_pos q]
          · by_cases q2 : f_MA_channelAt x < 0
            · rw [if_pos q2]
            · rw [if_neg q2, if_pos (by rw [ilt]; rw [ile] at q; exact Int.lt_of_lt_of_le (by decide) q)]
        rw [if_pos e]
        exact ⟨rfl, h, rfl⟩
      · rw [if_neg ha, chB ha]
        obtain ⟨c, hc, ec⟩ := vp_in_of (at_in ha) (by omega)
        rw [ec, nI_clamp (by omega)]
        have e : ¬ f_SM_isChannel (nI c) = 0 := by
          unfold f_SM_isChannel f_SM_within
          have q2 : ¬ nI c < 0 := by rw [ilt, nI_toInt (by omega), t0i]; omega
          have q4 : ¬ (3 : Int32) < nI c := by
            rw [ilt, nI_toInt (by omega)]
            have z : (3 : Int32).toInt = 3 := by decide
            omega
          rw [if_neg q2, if_neg q4]; decide
        rw [if_neg e, h.ic.nr hp, h.ch c 0 46 hc cm0]
        by_cases hs : a (iC c) 0 = nI p
        · rw [if_pos hs, if_pos hs]
          refine ⟨rfl, ?_, ?_⟩
          · show Re a0 b0 (some p) (f_CH_write c v (a iMA 5) a) _
            unfold f_CH_write
            have e5 : (up (up b i_full c 1) i_value c v) iMO 29 = a iMA 5 := by
              rw [up_row (by decide), up_row (by decide)]; exact h.sc 1 5 29 gmTime
            show Re a0 b0 (some p) _ (up (up (up b i_full c 1) i_value c v) i_hour c ((up (up b i_full c 1) i_value c v) iMO 29))
            rw [e5]
            exact ((h.upC hc cm3).upC hc cm4).upC hc cm5
          · show f_CH_write c v (a iMA 5) a 1 6 = a 1 6
            unfold f_CH_write
            rw [up_row (by unfold iC; omega), up_row (by unfold iC; omega), up_row (by unfold iC; omega)]
        · rw [if_neg hs, if_neg hs]
          exact ⟨rfl, h, rfl⟩
    · rw [if_neg hi, if_neg hi]
      have hw : vp_in ((a (iP p) 1) + (x / 4)) 96 := hold_in h.ic hp (by rw [S_holds h hp x]; exact hi)
      rw [nIc hp, h.pt p 1 33 hp pm1]
      exact ⟨rfl, h.upMem (vin_lt hw), by show (up a iWO (a (iP p) 1 + x / 4).toNatClampNeg v) 1 6 = a 1 6; rw [up_row (by decide)]⟩
  · rw [if_neg h3, if_neg h3]
    exact ⟨rfl, h, rfl⟩
theorem v15 : vp_in (15 : Int32) 16 := vp_in_nI (n := 15) (by omega) (by omega)
theorem v10 : vp_in (10 : Int32) 16 := vp_in_nI (n := 10) (by omega) (by omega)
theorem v11 : vp_in (11 : Int32) 16 := vp_in_nI (n := 11) (by omega) (by omega)
theorem S_put2 (h : Re a0 b0 o a b) (hp : p < 4) (v w : Int32) : Re a0 b0 o (f_PT_put p 10 v (f_PT_put p 11 w a)) (f_MO_put (nI p) 11 w (f_MO_put (nI p) 10 v b)) := by
  have e : f_MO_put (nI p) 11 w (f_MO_put (nI p) 10 v b) = f_MO_put (nI p) 10 v (f_MO_put (nI p) 11 w b) := by
    unfold f_MO_put
    rw [ix16 hp v10, ix16 hp v11]
    simp only [if_neg (show ¬ (10 : Int32) = 0 by decide), if_neg (show ¬ (11 : Int32) = 0 by decide)]
    have e1 : (10 : Int32).toNatClampNeg = 10 := by decide
    have e2 : (11 : Int32).toNatClampNeg = 11 := by decide
    rw [e1, e2]
    funext j k
    simp only [up_at]
    by_cases q : j = 32 ∧ k = 16 * p + 11
    · rw [if_pos q, if_neg (by omega), if_pos q]
    · rw [if_neg q, if_neg q]
  rw [e]
  exact S_put (S_put h hp v11) hp v10
theorem S_age (h : Re a0 b0 o a b) {c : Nat} (hc : c < 4) (t : Int32) (ht : t = b 29 29) : f_CH_age c t a = ((if (b i_full c) = 0 then (-1) else (if ((b iMO 29) - (b i_hour c)) ≤ (b i_period c) then ((b iMO 29) - (b i_hour c)) else (-1))) : Int32) := by
  unfold f_CH_age
  rw [ht, h.ch c 3 43 hc cm3, h.ch c 5 50 hc cm5, h.ch c 2 48 hc cm2]
  by_cases q : a (iC c) 3 = 0
  · rw [if_pos q, if_pos q]
  · rw [if_neg q, if_neg q]
    by_cases q2 : (b 29 29 - a (iC c) 5) ≤ a (iC c) 2
    · rw [if_pos q2, if_neg (by rw [ilt]; rw [ile] at q2; omega)]
    · rw [if_neg q2, if_pos (by rw [ilt]; rw [ile] at q2; omega)]
theorem S_calls (h : Re a0 b0 (some p) a b) (hp : p < 4) : Sq a0 b0 a p (f_MA_serve p a) (f_MO_calls (nI p) b) := by
  have hn : ∀ (y v : Int32) (a' : St), a' 1 6 = a 1 6 → f_PT_put p y v a' 1 6 = a 1 6 := fun y v a' e => by rw [put_row _ _ _ _ (by unfold iR; omega), e]
  unfold f_MA_serve f_MO_calls
  simp only [lp_MO_calls_67]
  rw [S_get h hp v15, S_get h hp v10, S_get h hp v11, nIc hp]
  generalize hu : b 32 ((nI p * 16) + 15).toNatClampNeg = u
  generalize hx : b 32 ((nI p * 16) + 10).toNatClampNeg = x
  generalize hy : b 32 ((nI p * 16) + 11).toNatClampNeg = y
  have hm : b 41 p = a (iP p) 4 := h.pt p 4 41 hp pm4
  have hk : b 29 23 = a 1 0 := h.sc 1 0 23 gmKey
  have ht : a 1 5 = b 29 29 := (h.sc 1 5 29 gmTime).symm
  by_cases u0 : u = 0
  · subst u0
    rw [if_pos rfl, if_neg (by decide), if_neg (by decide), if_pos (by decide), if_neg (by decide), if_pos rfl]
    refine ⟨rfl, h.upSil hp, ?_⟩
    show up a (iP p) 7 1 1 6 = a 1 6
    rw [up_row (by unfold iP; omega)]
  by_cases u4 : u = 4
  · subst u4
    rw [if_neg (by decide), if_neg (by decide), if_neg (by decide), if_neg (by decide), if_pos rfl, if_neg (by decide), if_neg (by decide), if_neg (by decide), if_pos (by decide), if_neg (by decide), if_neg (by decide), if_neg (by decide), if_neg (by decide), ← hm]
    exact ⟨rfl, S_put h hp v10, by dsimp only; exact hn _ _ _ rfl⟩
  by_cases u123 : u = 1 ∨ u = 2 ∨ u = 3
  · have c1 : ¬ u < 0 := by rcases u123 with e | e | e <;> rw [e] <;> decide
    have c2 : ¬ (4 : Int32) < u := by rcases u123 with e | e | e <;> rw [e] <;> decide
    have c3 : ¬ u ≤ 0 := by rcases u123 with e | e | e <;> rw [e] <;> decide
    have c4 : ¬ (4 : Int32) ≤ u := by rcases u123 with e | e | e <;> rw [e] <;> decide
    rw [if_neg u0, if_neg c1, if_neg c2, if_neg c3, if_neg c4]
    by_cases hno : f_MO_no x 3 = 0
    · rw [if_pos hno]
      obtain ⟨c, hc, ec⟩ := vp_in_of (no3 hno) (by omega)
      have q2 : ¬ nI c < 0 := by rw [ilt, nI_toInt (by omega), t0i]; omega
      have q4 : ¬ (4 : Int32) ≤ nI c := fun e => by have := (nIle (n := 4) (by omega) (by omega)).mp e; omega
      have qw : f_SM_within x 0 3 = 1 := wiNo hno
      rcases u123 with e | e | e
      · subst e
        rw [if_pos rfl, if_pos rfl]
        unfold f_MA_tellAge f_MA_isReadable
        rw [ec, if_neg q2, if_neg q4, nI_clamp (by omega), h.ic.nr hp, h.ch c 1 47 hc cm1]
        by_cases hr : (sshr (a (iC c) 1) (nI p)) &&& 1 = 0
        · rw [if_pos hr, if_neg (fun e => (rd_iff hp _).mp e hr), if_pos rfl]
          exact ⟨rfl, h, rfl⟩
        · rw [if_neg hr, if_pos ((rd_iff hp _).mpr hr), if_neg (by decide), if_neg (by decide)]
          refine ⟨rfl, ?_, by dsimp only; exact hn _ _ _ rfl⟩
          rw [S_age h hc _ ht]
          exact S_put h hp v10
      · subst e
        rw [if_neg (by decide), if_pos rfl, if_neg (by decide), if_neg (by decide), if_pos rfl]
        unfold f_MA_seal
        rw [if_neg (by rw [qw]; decide), ec, nI_clamp (by omega)]
        have e1 : ∀ v, up a (iS c) 0 v iMA 0 = a 1 0 := fun v => by rw [up_row (by unfold iS iMA; omega)]
        have e2 : ∀ v, up a (iS c) 0 v (iP p) 4 = a (iP p) 4 := fun v => by rw [up_row (by unfold iS iP; omega)]
        have e3 : ∀ v, up b i_holds c v iMO 23 = a 1 0 := fun v => by rw [up_row (by decide)]; exact hk
        have e4 : ∀ v, up b i_holds c v i_measure p = a (iP p) 4 := fun v => by rw [up_row (by decide)]; exact hm
        refine ⟨rfl, ?_, ?_⟩
        · show Re a0 b0 (some p) _ _
          rw [e1, e2, e3, e4, hm, hk]
          exact (h.upS hc sm0).upS hc sm1
        · show up (up a (iS c) 0 _) (iS c) 1 _ 1 6 = a 1 6
          rw [up_row (by unfold iS; omega), up_row (by unfold iS; omega)]
      · subst e
        rw [if_neg (by decide), if_neg (by decide), if_pos rfl, if_neg (by decide), if_neg (by decide), if_neg (by decide), if_pos rfl]
        unfold f_MA_open
        rw [if_neg (by rw [qw]; decide), ec, nI_clamp (by omega), hm, hk, h.sl c 0 51 hc sm0, h.sl c 1 52 hc sm1]
        show Sq a0 b0 a p (_, _) _
        by_cases hs : a (iS c) 1 = f_MO_mix (f_MO_mix (a 1 0) (a (iS c) 0 ^^^ f_MO_mix (a 1 0) (a (iP p) 4))) (a (iP p) 4)
        · have hs' : a (iS c) 1 = f_SM_mix (f_SM_mix (a 1 0) (a (iS c) 0 ^^^ f_SM_mix (a 1 0) (a (iP p) 4))) (a (iP p) 4) := hs
          rw [if_pos hs', if_pos hs, if_neg (show ¬ (1 : Int32) = 0 by decide), if_neg (show ¬ (1 : Int32) = 0 by decide), if_neg (show ¬ (1 : Int32) = 0 by decide)]
          exact ⟨rfl, S_put2 h hp _ _, by dsimp only; exact hn _ _ _ (hn _ _ _ rfl)⟩
        · have hs' : ¬ a (iS c) 1 = f_SM_mix (f_SM_mix (a 1 0) (a (iS c) 0 ^^^ f_SM_mix (a 1 0) (a (iP p) 4))) (a (iP p) 4) := hs
          rw [if_neg hs', if_neg hs, if_pos (show (0 : Int32) = 0 from rfl), if_pos (show (0 : Int32) = 0 from rfl), if_pos (show (0 : Int32) = 0 from rfl)]
          exact ⟨rfl, S_put h hp v10, by dsimp only; exact hn _ _ _ rfl⟩
    · rw [if_neg hno]
      have qw : f_SM_within x 0 3 = 0 := wiNo0 hno
      rcases u123 with e | e | e
      · subst e
        rw [if_pos rfl]
        unfold f_MA_tellAge
        have e9 : f_MA_isReadable x p a = 0 := by
          unfold f_MA_isReadable
          unfold f_SM_within at qw
          by_cases q : x < 0
          · rw [if_pos q]
          · rw [if_neg q] at qw ⊢
            by_cases q2 : (3 : Int32) < x
            · rw [if_pos (by rw [ile]; rw [ilt] at q2; exact q2)]
            · rw [if_neg q2] at qw; exact absurd qw (by decide)
        rw [if_pos e9]
        exact ⟨rfl, h, rfl⟩
      · subst e
        rw [if_neg (by decide), if_pos rfl]
        unfold f_MA_seal
        rw [if_pos qw]
        exact ⟨rfl, h, rfl⟩
      · subst e
        rw [if_neg (by decide), if_neg (by decide), if_pos rfl]
        unfold f_MA_open
        rw [if_pos qw]
        exact ⟨rfl, h, rfl⟩
  · have n1 : ¬ u = 1 := fun e => u123 (Or.inl e)
    have n2 : ¬ u = 2 := fun e => u123 (Or.inr (Or.inl e))
    have n3 : ¬ u = 3 := fun e => u123 (Or.inr (Or.inr e))
    rw [if_neg u0, if_neg n1, if_neg n2, if_neg n3, if_neg u4]
    by_cases c1 : u < 0
    · rw [if_pos c1]; exact ⟨rfl, h, rfl⟩
    · rw [if_neg c1]
      by_cases c2 : (4 : Int32) < u
      · rw [if_pos c2]; exact ⟨rfl, h, rfl⟩
      · exfalso
        obtain ⟨j, hj, rfl⟩ := nI_of c1
        rw [ilt, nI_toInt hj, show (4 : Int32).toInt = 4 by decide] at c2
        have cs : j = 0 ∨ j = 1 ∨ j = 2 ∨ j = 3 ∨ j = 4 := by omega
        rcases cs with rfl | rfl | rfl | rfl | rfl
        · exact u0 rfl
        · exact n1 rfl
        · exact n2 rfl
        · exact n3 rfl
        · exact u4 rfl
end SIM2
