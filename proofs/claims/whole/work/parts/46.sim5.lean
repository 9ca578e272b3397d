/-! THE TWO SIDES: a tick, and a run -/
/-- the windows and where we are in them -/
def Bw (b : St) : Prop := (∀ w : Nat, w < 6 → (w : Int) < (b 29 26).toInt → 1 ≤ (b 45 w).toInt) ∧ (¬ b 29 24 = 0 → (b 29 27).toInt < (b 29 26).toInt ∧ 1 ≤ (b 29 28).toInt)
def pnow (a : St) : Nat := (f_TT_partitionNow a).toNatClampNeg
def finC (σ : St) : St := if (f_TT_endsWindow σ).1 = 0 then (f_TT_endsWindow σ).2 else up (f_TT_endsWindow σ).2 (iP (pnow (f_TT_endsWindow σ).2)) 7 0
def finM0 (σ : St) : St := up σ iMO 28 ((σ iMO 28) - 1)
def finM1 (σ : St) : St := up σ iMO 27 (((σ iMO 27) + 1) - ((σ iMO 27) + 1) / (σ iMO 26) * (σ iMO 26))
def finM2 (σ : St) : St := up (up σ iMO 28 (σ i_length ((σ iMO 27)).toNatClampNeg)) iMO 25 0
def finM3 (σ : St) : St := up σ iMO 31 ((σ iMO 31) + 1)
def finM (σ : St) : St := if (finM0 σ iMO 28) = 0 then finM3 (finM2 (finM1 (finM0 σ))) else finM0 σ
def t1C (σ : St) : St := up σ iMA 5 ((σ iMA 5) + 1)
def t1M (σ : St) : St := up σ iMO 29 ((σ iMO 29) + 1)
theorem tk0 (σ : St) (h : t1C σ (iP (pnow (t1C σ))) 6 = 0 ∨ ¬ t1C σ (iP (pnow (t1C σ))) 7 = 0) : f_SM_tick σ = (0, finC (t1C σ)) := by
  have e : ((if (t1C σ (iP (pnow (t1C σ))) 6) = 0 then 0 else (if (t1C σ (iP (pnow (t1C σ))) 7) = 0 then 1 else 0)) : Int32) = 0 := by
    rcases h with h | h
    · rw [if_pos h]
    · rw [if_neg h, ite_self]
  unfold f_SM_tick
  unfold t1C pnow at e
  rw [e, if_pos rfl]
  unfold finC t1C pnow
  split <;> rfl
theorem tk1 (σ : St) (h : ¬ t1C σ (iP (pnow (t1C σ))) 6 = 0) (h2 : t1C σ (iP (pnow (t1C σ))) 7 = 0) : f_SM_tick σ = (1, finC (f_MA_step (pnow (t1C σ)) (t1C σ))) := by
  have e : ((if (t1C σ (iP (pnow (t1C σ))) 6) = 0 then 0 else (if (t1C σ (iP (pnow (t1C σ))) 7) = 0 then 1 else 0)) : Int32) = 1 := by
    rw [if_neg h, if_pos h2]
  unfold f_SM_tick
  unfold t1C pnow at e
  rw [e, if_neg (by decide)]
  unfold finC t1C pnow
  split <;> rfl
theorem rn1 (xa : Int32) (k : Nat) (m i : Int32) (σ : St) (hi : ¬ xa ≤ i) (ht : σ iMO 33 = 0) : lp_MO_run_36 xa (k + 1) m i σ = if ((t1M σ) i_ready (((t1M σ) i_owner (((t1M σ) iMO 27)).toNatClampNeg)).toNatClampNeg) = 0 ∨ ¬ (t1M σ) iMO 25 = 0 then lp_MO_run_36 xa k m (i + 1) (finM (t1M σ)) else lp_MO_run_36 xa k (m + 1) (i + 1) (finM (f_MO_step ((t1M σ) i_owner (((t1M σ) iMO 27)).toNatClampNeg) (t1M σ))) := by
  simp only [lp_MO_run_36]
  rw [if_neg hi, if_pos ht]
  show (if (t1M σ i_ready (t1M σ i_owner (t1M σ iMO 27).toNatClampNeg).toNatClampNeg) = 0 then (if finM0 (t1M σ) iMO 28 = 0 then lp_MO_run_36 xa k m (i + 1) (finM3 (finM2 (finM1 (finM0 (t1M σ))))) else lp_MO_run_36 xa k m (i + 1) (finM0 (t1M σ))) else (if t1M σ iMO 25 = 0 then (if finM0 (f_MO_step (t1M σ i_owner (t1M σ iMO 27).toNatClampNeg) (t1M σ)) iMO 28 = 0 then lp_MO_run_36 xa k (m + 1) (i + 1) (finM3 (finM2 (finM1 (finM0 (f_MO_step (t1M σ i_owner (t1M σ iMO 27).toNatClampNeg) (t1M σ)))))) else lp_MO_run_36 xa k (m + 1) (i + 1) (finM0 (f_MO_step (t1M σ i_owner (t1M σ iMO 27).toNatClampNeg) (t1M σ)))) else (if finM0 (t1M σ) iMO 28 = 0 then lp_MO_run_36 xa k m (i + 1) (finM3 (finM2 (finM1 (finM0 (t1M σ))))) else lp_MO_run_36 xa k m (i + 1) (finM0 (t1M σ))))) = _
  unfold finM
  by_cases q1 : (t1M σ i_ready (t1M σ i_owner (t1M σ iMO 27).toNatClampNeg).toNatClampNeg) = 0
  · rw [if_pos q1, if_pos (Or.inl q1)]; split <;> rfl
  · rw [if_neg q1]
    by_cases q2 : t1M σ iMO 25 = 0
    · rw [if_pos q2, if_neg (not_or.mpr ⟨q1, fun f => f q2⟩)]; split <;> rfl
    · rw [if_neg q2, if_pos (Or.inr q2)]; split <;> rfl
section SIM5
variable {a0 b0 a b : St} {p : Nat}
theorem frU {i j k : Nat} {v : Int32} {σ τ : St} (h : σ i = τ i) (hj : i ≠ j) : up σ j k v i = τ i := by rw [up_row hj, h]
theorem fr_clr (p : Nat) {i : Nat} (hi : i < 9) : ∀ (k : Nat) (x : Int32) (σ : St), lp_PT_clearRegisters_7 p k x σ i = σ i := by
  intro k
  induction k with
  | zero => intro x σ; rfl
  | succ k ih =>
    intro x σ
    simp only [lp_PT_clearRegisters_7]
    split
    · rfl
    · rw [ih]; exact up_row (by unfold iR; omega)
theorem fr_suffer (p : Nat) (x : Int32) {i : Nat} (hi : i = 0 ∨ i = 6 ∨ i = 7 ∨ i = 8) (σ : St) : f_PT_suffer p x σ i = σ i := by
  have n1 : ∀ q, i ≠ iP q := fun q => by unfold iP; omega
  unfold f_PT_suffer
  split
  · exact frU (frU (frU rfl (n1 p)) (n1 p)) (n1 p)
  · split
    · split
      · exact frU (frU (frU rfl (n1 p)) (n1 p)) (n1 p)
      · unfold f_PT_restart f_PT_clearRegisters
        rw [up_row (n1 p), fr_clr p (by omega), up_row (n1 p), upr_row (by unfold iWO; omega)]
        exact frU (frU (frU rfl (n1 p)) (n1 p)) (n1 p)
    · exact frU (frU (frU rfl (n1 p)) (n1 p)) (n1 p)
theorem fr_put (p : Nat) (x v : Int32) {i : Nat} (hi : i = 0 ∨ i = 6 ∨ i = 7 ∨ i = 8) (σ : St) : f_PT_put p x v σ i = σ i := put_row p x v σ (by unfold iR; omega)
theorem fr_read (p : Nat) (x y : Int32) {i : Nat} (hi : i = 0 ∨ i = 6 ∨ i = 7 ∨ i = 8) (σ : St) : (f_MA_readInto p x y σ).2 i = σ i := by
  unfold f_MA_readInto
  split
  · split
    · split
      · rfl
      · exact fr_put p _ _ hi σ
    · exact fr_put p _ _ hi σ
  · rfl
theorem fr_write (p : Nat) (x y : Int32) {i : Nat} (hi : i = 0 ∨ i = 6 ∨ i = 7 ∨ i = 8) (σ : St) : (f_MA_write p x y σ).2 i = σ i := by
  have n4 : ∀ q, i ≠ iC q := fun q => by unfold iC; omega
  unfold f_MA_write f_CH_write
  split
  · split
    · split
      · rfl
      · split
        · exact frU (frU (frU rfl (n4 _)) (n4 _)) (n4 _)
        · rfl
    · exact frU rfl (by unfold iWO; omega)
  · rfl
theorem fr_age (p : Nat) (x : Int32) {i : Nat} (hi : i = 0 ∨ i = 6 ∨ i = 7 ∨ i = 8) (σ : St) : (f_MA_tellAge p x σ).2 i = σ i := by
  unfold f_MA_tellAge
  split
  · rfl
  · dsimp only; exact fr_put p _ _ hi σ
theorem fr_seal (p : Nat) (x y : Int32) {i : Nat} (hi : i = 0 ∨ i = 6 ∨ i = 7 ∨ i = 8) (σ : St) : (f_MA_seal p x y σ).2 i = σ i := by
  have n5 : ∀ q, i ≠ iS q := fun q => by unfold iS; omega
  unfold f_MA_seal
  split
  · rfl
  · exact frU (frU rfl (n5 _)) (n5 _)
theorem fr_open (p : Nat) (x : Int32) {i : Nat} (hi : i = 0 ∨ i = 6 ∨ i = 7 ∨ i = 8) (σ : St) : (f_MA_open p x σ).2 i = σ i := by
  unfold f_MA_open
  by_cases q : f_SM_within x 0 3 = 0
  · rw [if_pos q]
  · rw [if_neg q]
    by_cases q2 : σ (iS (x).toNatClampNeg) 1 = f_SM_mix (f_SM_mix (σ iMA 0) (σ (iS (x).toNatClampNeg) 0 ^^^ f_SM_mix (σ iMA 0) (σ (iP p) 4))) (σ (iP p) 4)
    · rw [if_pos q2, if_neg (by decide)]
      dsimp only
      rw [fr_put p _ _ hi, fr_put p _ _ hi]
    · rw [if_neg q2, if_pos rfl]
      dsimp only
      rw [fr_put p _ _ hi]
theorem fr_serve (p : Nat) {i : Nat} (hi : i = 0 ∨ i = 6 ∨ i = 7 ∨ i = 8) (σ : St) : (f_MA_serve p σ).2 i = σ i := by
  unfold f_MA_serve
  split
  · exact frU rfl (by unfold iP; omega)
  split
  · exact fr_age p _ hi σ
  split
  · exact fr_seal p _ _ hi σ
  split
  · exact fr_open p _ hi σ
  split
  · dsimp only; exact fr_put p _ _ hi σ
  · rfl
theorem fr_exec (p : Nat) (w : Int32) {i : Nat} (hi : i = 0 ∨ i = 6 ∨ i = 7 ∨ i = 8) (σ : St) : (f_MA_execute p w σ).2 i = σ i := by
  have n2 : i ≠ iMA := by unfold iMA; omega
  have ju : ∀ x y, (f_MA_jump p x y σ).2 i = σ i := fun x y => by
    unfold f_MA_jump
    exact frU (fr_put p _ _ hi σ) n2
  unfold f_MA_execute
  split
  · rfl
  split
  · exact fr_read p _ _ hi σ
  split
  · exact fr_put p _ _ hi σ
  split
  · exact fr_put p _ _ hi σ
  split
  · exact fr_write p _ _ hi σ
  split
  · exact fr_put p _ _ hi σ
  split
  · exact fr_put p _ _ hi σ
  split
  · split
    · rfl
    · exact frU rfl n2
  split
  · exact ju _ _
  split
  · exact ju _ _
  split
  · exact fr_serve p hi σ
  · rfl
theorem fr_step (p : Nat) {i : Nat} (hi : i = 0 ∨ i = 6 ∨ i = 7 ∨ i = 8) (σ : St) : f_MA_step p σ i = σ i := by
  have n1 : ∀ q, i ≠ iP q := fun q => by unfold iP; omega
  have n2 : i ≠ iMA := by unfold iMA; omega
  have e1 : (up (f_PT_noteBegun p σ) iMA 6 (((f_PT_noteBegun p σ) (iP p) 5) + 4)) i = σ i := by
    unfold f_PT_noteBegun
    exact frU (frU rfl (n1 p)) n2
  unfold f_MA_step
  split
  · split
    · rw [up_row (n1 p), fr_exec p _ hi, e1]
    · rw [fr_suffer p _ hi, fr_exec p _ hi, e1]
  · rw [fr_suffer p _ hi, e1]
theorem modEq : ∀ w, w < 7 → ∀ c, c < w → (nI c + 1) - (nI c + 1) / nI w * nI w = if nI w ≤ nI c + 1 then 0 else nI c + 1 := by decide +kernel
theorem S_fin (h : Re a0 b0 (some (pnow a)) a b) (hb : Bw b) (hz : ¬ b 29 24 = 0) : Re a0 b0 (some (pnow (finC a))) (finC a) (finM b) ∧ Bw (finM b) ∧ finM b 29 24 = b 29 24 ∧ finM b 29 33 = b 29 33 := by
  have eL : b 29 28 = a 6 4 := h.sc 6 4 28 gmLeft
  obtain ⟨hb1, hb2⟩ := hb
  obtain ⟨hb3, hb4⟩ := hb2 hz
  have hL : (b 29 28 - 1).toInt = (b 29 28).toInt - 1 := by
    have l1 := Int32.toInt_lt (b 29 28)
    rw [Int32.toInt_sub, show (1 : Int32).toInt = 1 by decide]
    apply Int.bmod_eq_of_le <;> omega
  have h1 : Re a0 b0 (some (pnow a)) (up a 6 4 (a 6 4 - 1)) (finM0 b) := by
    unfold finM0
    rw [eL]
    exact h.upG gmLeft (Ic.upTT h.ic (by decide))
  have l1 : (up a 6 4 (a 6 4 - 1)) 6 4 = b 29 28 - 1 := by rw [up_at, if_pos ⟨rfl, rfl⟩, eL]
  have l2 : finM0 b 29 28 = b 29 28 - 1 := by unfold finM0; rw [up_at, if_pos ⟨rfl, rfl⟩]
  have o24 : finM0 b 29 24 = b 29 24 := by unfold finM0; rw [up_slot (by decide)]
  have o33 : finM0 b 29 33 = b 29 33 := by unfold finM0; rw [up_slot (by decide)]
  have o26 : finM0 b 29 26 = b 29 26 := by unfold finM0; rw [up_slot (by decide)]
  have o27 : finM0 b 29 27 = b 29 27 := by unfold finM0; rw [up_slot (by decide)]
  have o45 : finM0 b 45 = b 45 := by unfold finM0; rw [up_row (by decide)]
  have pn1 : pnow (up a 6 4 (a 6 4 - 1)) = pnow a := by
    unfold pnow f_TT_partitionNow
    rw [up_row (show iTP ≠ 6 by decide), up_slot (by decide)]
  unfold finC finM
  by_cases q : b 29 28 - 1 = 0
  · have E : f_TT_endsWindow a = (1, f_TT_begin ((if (up a 6 4 (a 6 4 - 1)) 6 2 ≤ (up a 6 4 (a 6 4 - 1)) 6 3 + 1 then 0 else (up a 6 4 (a 6 4 - 1)) 6 3 + 1) : Int32) (up a 6 4 (a 6 4 - 1))) := by
      unfold f_TT_endsWindow
      exact if_pos (by rw [show (up a iTT 4 (a iTT 4 - 1)) iTT 4 = b 29 28 - 1 from l1, q]; decide)
    rw [E, l2, if_pos q, if_neg (by show ¬ (1 : Int32) = 0; decide)]
    show Re a0 b0 _ (up (f_TT_begin _ _) (iP (pnow (f_TT_begin _ _))) 7 0) _ ∧ _
    have c26 : finM0 b 29 26 = (up a 6 4 (a 6 4 - 1)) 6 2 := h1.sc 6 2 26 gmSize
    have c27 : finM0 b 29 27 = (up a 6 4 (a 6 4 - 1)) 6 3 := h1.sc 6 3 27 gmCur
    rw [← c26, ← c27]
    have ts := h1.ic.ts
    have tc := h1.ic.tc
    rw [show (up a 6 4 (a 6 4 - 1)) iTT 2 = b 29 26 from by rw [← o26]; exact c26.symm] at ts
    rw [show (up a 6 4 (a 6 4 - 1)) iTT 3 = b 29 27 from by rw [← o27]; exact c27.symm] at tc
    generalize up a 6 4 (a 6 4 - 1) = a1 at h1 l1 pn1 c26 c27 ⊢
    generalize finM0 b = b1 at h1 l2 o24 o33 o26 o27 o45 c26 c27 ⊢
    rw [o26, o27]
    obtain ⟨w, hw, ew⟩ := nI_of (nlt0 ts.1)
    obtain ⟨c, hc, ec⟩ := nI_of (nlt0 tc.1)
    rw [ew, nI_toInt hw] at ts hb3
    rw [ec, nI_toInt hc] at tc hb3
    have em := modEq w (by omega) c (by omega)
    have hv : vp_in (if nI w ≤ nI c + 1 then 0 else nI c + 1) w := by
      split
      · exact vp_in_nI (n := 0) (by omega) (by omega)
      · rename_i q9
        rw [show nI c + 1 = nI (c + 1) from nI_add c 1] at q9 ⊢
        have := mt (nIle (by omega) (by omega)).mpr q9
        exact vp_in_nI (by omega) (by omega)
    obtain ⟨v, hv1, hv2⟩ := vp_in_of hv (by omega)
    rw [ew, ec, hv2]
    rw [hv2] at em
    have e1 : finM1 b1 = up b1 29 27 (nI v) := by
      unfold finM1
      rw [o26, o27, ew, ec, em]
    have h2 : Re a0 b0 none (up a1 6 3 (nI v)) (up b1 29 27 (nI v)) := h1.noO.upG gmCur (Ic.cur h1.ic (vp_in_nI (by omega) (by omega)))
    have h3 := h2.upG (v := up a1 6 3 (nI v) 8 v) gmLeft (Ic.upTT h2.ic (by decide))
    have h4 := h3.upSilB (v := 0)
    have h5 := h4.upG (v := (up (up a1 6 3 (nI v)) 6 4 (up a1 6 3 (nI v) 8 v) 6 5) + 1) gmBegun (Ic.upTT h4.ic (by decide))
    have ebg : f_TT_begin (nI v) a1 = up (up (up a1 6 3 (nI v)) 6 4 (up a1 6 3 (nI v) 8 v)) 6 5 ((up (up a1 6 3 (nI v)) 6 4 (up a1 6 3 (nI v) 8 v) 6 5) + 1) := by
      unfold f_TT_begin; rw [nI_clamp (by omega)]
    have elen : b1 45 v = a1 8 v := h1.tl v (by omega)
    have e2 : finM2 (finM1 b1) = up (up (up b1 29 27 (nI v)) 29 28 (up a1 6 3 (nI v) 8 v)) 29 25 0 := by
      rw [e1]; unfold finM2
      rw [show (up b1 29 27 (nI v)) iMO 27 = nI v from by rw [up_at, if_pos ⟨rfl, rfl⟩], nI_clamp (by omega), up_row (show i_length ≠ 29 by decide), up_row (show (8 : Nat) ≠ 6 by decide)]
      rw [show b1 i_length v = a1 8 v from elen]
    have e3 : finM3 (finM2 (finM1 b1)) = up (up (up (up b1 29 27 (nI v)) 29 28 (up a1 6 3 (nI v) 8 v)) 29 25 0) 29 31 ((up (up a1 6 3 (nI v)) 6 4 (up a1 6 3 (nI v) 8 v) 6 5) + 1) := by
      rw [e2]; unfold finM3
      rw [show (up (up (up b1 29 27 (nI v)) 29 28 (up a1 6 3 (nI v) 8 v)) 29 25 0) iMO 31 = _ from h4.sc 6 5 31 gmBegun]
    rw [ebg, e3]
    have hp' : vp_in (f_TT_partitionNow (up (up (up a1 6 3 (nI v)) 6 4 (up a1 6 3 (nI v) 8 v)) 6 5 ((up (up a1 6 3 (nI v)) 6 4 (up a1 6 3 (nI v) 8 v) 6 5) + 1))) 4 := pn_in h5.ic
    have hpl := vin_lt hp'
    have h6 := h5.upRestA (p := (f_TT_partitionNow (up (up (up a1 6 3 (nI v)) 6 4 (up a1 6 3 (nI v) 8 v)) 6 5 ((up (up a1 6 3 (nI v)) 6 4 (up a1 6 3 (nI v) 8 v) 6 5) + 1))).toNatClampNeg) (v := 0) hpl
    generalize hA : up (up (up a1 6 3 (nI v)) 6 4 (up a1 6 3 (nI v) 8 v)) 6 5 ((up (up a1 6 3 (nI v)) 6 4 (up a1 6 3 (nI v) 8 v) 6 5) + 1) = A at h5 hp' hpl h6 ⊢
    have en : pnow (up A (iP (pnow A)) 7 0) = pnow A := by
      unfold pnow f_TT_partitionNow
      rw [up_row (show iTP ≠ iP _ by unfold iTP iP; omega), up_row (show iTT ≠ iP _ by unfold iTT iP; omega)]
    refine ⟨?_, ⟨?_, ?_⟩, ?_, ?_⟩
    · rw [en]
      refine h6.someO hpl ?_
      rw [up_slot (by decide), up_at, if_pos ⟨rfl, rfl⟩, up_at, if_pos ⟨rfl, rfl⟩]
    · intro k hk1 hk2
      rw [up_slot (by decide), up_slot (by decide), up_slot (by decide), up_slot (by decide), o26] at hk2
      rw [up_row (by decide), up_row (by decide), up_row (by decide), up_row (by decide), o45]
      exact hb1 k hk1 hk2
    · intro _
      rw [up_slot (by decide), up_slot (by decide), up_slot (by decide), up_at, if_pos ⟨rfl, rfl⟩, nI_toInt (by omega)]
      rw [up_slot (by decide), up_slot (by decide), up_slot (by decide), up_slot (by decide), o26, ew, nI_toInt (by omega)]
      rw [up_slot (by decide), up_slot (by decide), up_at, if_pos ⟨rfl, rfl⟩, up_row (by decide), ← elen, o45]
      exact ⟨by omega, hb1 v (by omega) (by rw [ew, nI_toInt (by omega)]; omega)⟩
    · rw [up_slot (by decide), up_slot (by decide), up_slot (by decide), up_slot (by decide), o24]
    · rw [up_slot (by decide), up_slot (by decide), up_slot (by decide), up_slot (by decide), o33]
  · have q0 : (b 29 28 - 1).toInt ≠ 0 := fun e => q (Int32.toInt_inj.mp (by rw [e]; decide))
    have E : f_TT_endsWindow a = (0, up a 6 4 (a 6 4 - 1)) := by
      unfold f_TT_endsWindow
      exact if_neg (by rw [show (up a iTT 4 (a iTT 4 - 1)) iTT 4 = b 29 28 - 1 from l1, ile, t0i]; omega)
    rw [E, l2, if_neg q, if_pos rfl]
    show Re a0 b0 (some (pnow (up a 6 4 (a 6 4 - 1)))) (up a 6 4 (a 6 4 - 1)) (finM0 b) ∧ _
    rw [pn1]
    refine ⟨h1, ⟨?_, ?_⟩, o24, o33⟩
    · intro k hk1 hk2
      rw [o26] at hk2
      rw [o45]
      exact hb1 k hk1 hk2
    · intro _
      rw [o27, o26, l2]
      exact ⟨hb3, by omega⟩
end SIM5
