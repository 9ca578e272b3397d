/-! THE TWO SIDES: boot -/
section SIM10
variable {a0 b0 a b : St} {o : Option Nat} {p : Nat}
theorem mstart_eq (σ : St) : f_MA_start σ = lp_MA_start_31 5 0 0 (f_CH_clear 3 (f_CH_clear 2 (f_CH_clear 1 (f_CH_clear 0 (up σ 1 5 0))))) := by
  unfold f_MA_start
  simp only [lp_MA_start_7]
  rw [if_neg (by decide), if_neg (by decide), if_neg (by decide), if_neg (by decide), if_pos (by decide)]
  rfl
theorem clr_spec (p : Nat) : ∀ (n k i : Nat) (σ : St), n < k → i + n = 16 → lp_PT_clearRegisters_7 p k (nI i) σ = upr σ (iR p) (fun j => if i ≤ j ∧ j < 16 then 0 else σ (iR p) j) := by
  intro n
  induction n with
  | zero =>
    intro k i σ hk hi
    obtain ⟨k, rfl⟩ : ∃ k', k = k' + 1 := ⟨k - 1, by omega⟩
    obtain rfl : i = 16 := by omega
    simp only [lp_PT_clearRegisters_7]
    rw [if_pos (by decide)]
    have e : (fun j => if 16 ≤ j ∧ j < 16 then (0 : Int32) else σ (iR p) j) = σ (iR p) := by
      funext j; rw [if_neg (by omega)]
    rw [e, upr_same]
  | succ n ih =>
    intro k i σ hk hi
    obtain ⟨k, rfl⟩ : ∃ k', k = k' + 1 := ⟨k - 1, by omega⟩
    simp only [lp_PT_clearRegisters_7]
    rw [if_neg (fun e => by have := (nIle (n := 16) (by omega) (by omega)).mp e; omega), show nI i + 1 = nI (i + 1) from nI_add i 1, ih k (i + 1) _ (by omega) (by omega), nI_clamp (by omega), upr_up]
    congr 1
    funext j
    rw [up_at]
    by_cases q : j = i
    · subst q
      rw [if_neg (by omega), if_pos ⟨rfl, rfl⟩, if_pos (by omega)]
    · rw [if_neg (c := iR p = iR p ∧ j = i) (fun e => q e.2)]
      by_cases q2 : i + 1 ≤ j ∧ j < 16
      · rw [if_pos q2, if_pos (by omega)]
      · rw [if_neg q2, if_neg (by omega)]
def clrf (f : Nat → Int32) : Nat → Int32 := fun j => if 0 ≤ j ∧ j < 16 then 0 else f j
theorem clear_spec (p : Nat) (σ : St) : f_PT_clearRegisters p σ = upr (up σ (iP p) 5 0) (iR p) (clrf (σ (iR p))) := by
  unfold f_PT_clearRegisters
  rw [show (0 : Int32) = nI 0 from rfl, clr_spec p 16 17 0 _ (by omega) (by omega), up_row (show iR p ≠ iP p by unfold iR iP; omega)]
  rfl
theorem ms_congr {σ τ : St} (h2 : σ (iP p) 2 = τ (iP p) 2) (h3 : σ (iI p) = τ (iI p)) : ∀ (k : Nat) (m i : Int32), lp_PT_measured_14 p k m i σ = lp_PT_measured_14 p k m i τ := by
  intro k
  induction k with
  | zero => intro m i; rfl
  | succ k ih =>
    intro m i
    simp only [lp_PT_measured_14]
    rw [h2, h3, ih]
theorem me_congr {σ τ : St} (h1 : σ (iP p) 1 = τ (iP p) 1) (h2 : σ (iP p) 2 = τ (iP p) 2) (h3 : σ (iI p) = τ (iI p)) : f_PT_measured p σ = f_PT_measured p τ := by
  unfold f_PT_measured
  rw [h1, h2]
  exact ms_congr h2 h3 _ _ _
def stR (p : Nat) (σ : St) : Int32 := if (σ (iP p) 2) ≤ 0 then 0 else 1
def stA (p : Nat) (σ : St) : St := up (up (up (up (up (up (up σ (iP p) 7 0) (iP p) 10 0) (iP p) 11 0) (iP p) 12 0) (iP p) 13 0) (iP p) 4 0) (iP p) 6 (stR p σ)
def stI (p : Nat) (σ : St) : Nat → Int32 := va_cpy (σ 2) (σ (iI p)) (σ (iP p) 1).toNatClampNeg 0 (σ (iP p) 2).toNatClampNeg
def stB (p : Nat) (σ : St) : St := upr (f_PT_clearRegisters p (stA p σ)) (iI p) (stI p (f_PT_clearRegisters p (stA p σ)))
def stMs (p : Nat) (σ : St) : Int32 := if σ (iP p) 6 = 0 then 0 else f_PT_measured p σ
theorem start_eq (p : Nat) (σ : St) : f_PT_start p σ = up (stB p σ) (iP p) 4 (stMs p (stB p σ)) := by
  have nRP : iR p ≠ iP p := by unfold iR iP; omega
  have nIP : iI p ≠ iP p := by unfold iI iP; omega
  have nIR : iI p ≠ iR p := by unfold iI iR; omega
  have nPR : iP p ≠ iR p := fun e => nRP e.symm
  have nPI : iP p ≠ iI p := fun e => nIP e.symm
  have n2P : (2 : Nat) ≠ iP p := by unfold iP; omega
  have n2R : (2 : Nat) ≠ iR p := by unfold iR; omega
  -- the class's own order
  have hA : ∀ j k, ¬ (j = iP p ∧ k = 4) → (up (up (up (up (up (up σ (iP p) 6 (stR p σ)) (iP p) 7 0) (iP p) 10 0) (iP p) 11 0) (iP p) 12 0) (iP p) 13 0) j k = stA p σ j k := by
    intro j k hjk
    unfold stA
    simp only [up_at]
    repeat' split
    all_goals first | rfl | (exfalso; omega)
  generalize hs : (up (up (up (up (up (up σ (iP p) 6 (stR p σ)) (iP p) 7 0) (iP p) 10 0) (iP p) 11 0) (iP p) 12 0) (iP p) 13 0) = A at hA
  have hC : ∀ j k, ¬ (j = iP p ∧ k = 4) → f_PT_clearRegisters p A j k = f_PT_clearRegisters p (stA p σ) j k := by
    intro j k hjk
    rw [clear_spec, clear_spec, upr_at, upr_at]
    by_cases q : j = iR p
    · rw [if_pos q, if_pos q]
      unfold clrf
      rw [hA (iR p) k (fun e => nRP e.1)]
    · rw [if_neg q, if_neg q, up_at, up_at, hA j k hjk]
  have hrow : ∀ j, j ≠ iP p → f_PT_clearRegisters p A j = f_PT_clearRegisters p (stA p σ) j := fun j hj => by
    funext k; exact hC j k (fun e => hj e.1)
  have hI : va_cpy (f_PT_clearRegisters p A 2) (f_PT_clearRegisters p A (iI p)) (f_PT_clearRegisters p A (iP p) 1).toNatClampNeg 0 (f_PT_clearRegisters p A (iP p) 2).toNatClampNeg = stI p (f_PT_clearRegisters p (stA p σ)) := by
    unfold stI
    rw [hrow 2 n2P, hrow (iI p) nIP, hC (iP p) 1 (by omega), hC (iP p) 2 (by omega)]
  have e0 : f_PT_start p σ = up (upr (f_PT_clearRegisters p A) (iI p) (va_cpy (f_PT_clearRegisters p A 2) (f_PT_clearRegisters p A (iI p)) (f_PT_clearRegisters p A (iP p) 1).toNatClampNeg 0 (f_PT_clearRegisters p A (iP p) 2).toNatClampNeg)) (iP p) 4 (stMs p (upr (f_PT_clearRegisters p A) (iI p) (va_cpy (f_PT_clearRegisters p A 2) (f_PT_clearRegisters p A (iI p)) (f_PT_clearRegisters p A (iP p) 1).toNatClampNeg 0 (f_PT_clearRegisters p A (iP p) 2).toNatClampNeg))) := by
    subst hs; rfl
  rw [e0, hI]
  have hB : ∀ j k, ¬ (j = iP p ∧ k = 4) → upr (f_PT_clearRegisters p A) (iI p) (stI p (f_PT_clearRegisters p (stA p σ))) j k = stB p σ j k := by
    intro j k hjk
    unfold stB
    rw [upr_at, upr_at, hC j k hjk]
  have hM : stMs p (upr (f_PT_clearRegisters p A) (iI p) (stI p (f_PT_clearRegisters p (stA p σ)))) = stMs p (stB p σ) := by
    unfold stMs
    rw [hB (iP p) 6 (by omega), me_congr (hB (iP p) 1 (by omega)) (hB (iP p) 2 (by omega)) (by funext k; exact hB (iI p) k (fun e => nIP e.1))]
  rw [hM]
  funext j k
  rw [up_at, up_at]
  by_cases q : j = iP p ∧ k = 4
  · rw [if_pos q, if_pos q]
  · rw [if_neg q, if_neg q, hB j k q]
end SIM10
