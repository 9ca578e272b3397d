/-! THE TWO SIDES: faults -/
section SIM3
variable {a0 b0 a b : St} {o : Option Nat} {p : Nat}
theorem S_clrl (hp : p < 4) : ∀ (k i : Nat) (a b : St), i ≤ 16 → Re a0 b0 o a b → Re a0 b0 o (lp_PT_clearRegisters_7 p k (nI i) a) (lp_MO_clear_9 (nI p) k (nI i) b) := by
  intro k
  induction k with
  | zero => intro i a b _ h; exact h
  | succ k ih =>
    intro i a b hi h
    simp only [lp_PT_clearRegisters_7, lp_MO_clear_9]
    by_cases q : i = 16
    · subst q
      rw [if_pos (by decide), if_pos (by decide)]; exact h
    · have q' : ¬ (16 : Int32) ≤ nI i := fun e => by have := (nIle (n := 16) (by omega) (by omega)).mp e; omega
      rw [if_neg q', if_neg q', show nI i + 1 = nI (i + 1) from nI_add i 1, ix16 hp (vp_in_nI (by omega) (by omega)), nI_clamp (by omega)]
      exact ih (i + 1) _ _ (by omega) (h.upR hp (by omega) (Or.inr rfl))
theorem S_clear (h : Re a0 b0 o a b) (hp : p < 4) : Re a0 b0 o (f_PT_clearRegisters p a) (f_MO_clear (nI p) b) := by
  unfold f_PT_clearRegisters f_MO_clear
  rw [nIc hp]
  exact S_clrl hp 17 0 _ _ (by omega) (h.upP hp pm5 (by decide) (by decide))
theorem cpy0 (f g : Nat → Int32) (s d : Nat) : va_cpy f g s d 0 = g := by
  funext k; unfold va_cpy; rw [if_neg (by omega)]
theorem upr_same (σ : St) (i : Nat) : upr σ i (σ i) = σ := by
  funext j k; rw [upr_at]; split
  · rename_i e; rw [e]
  · rfl
theorem cpy_step (g h : Nat → Int32) (i d n : Nat) : va_cpy g h i d (n + 1) = va_cpy g (upd h d (g i)) (i + 1) (d + 1) n := by
  funext x
  unfold va_cpy upd
  by_cases q1 : x = d
  · subst q1
    rw [if_pos (by omega), if_neg (by omega), if_pos rfl]
    congr 1; omega
  · by_cases q2 : d + 1 ≤ x ∧ x < d + 1 + n
    · rw [if_pos (by omega), if_pos q2]
      congr 1; omega
    · rw [if_neg (by omega), if_neg q2, if_neg q1]
theorem upr_upr (σ : St) (i : Nat) (f g : Nat → Int32) : upr (upr σ i f) i g = upr σ i g := by
  funext j k; simp only [upr_at]; split <;> rfl
theorem upr_up (σ : St) (i k : Nat) (v : Int32) (g : Nat → Int32) : upr (up σ i k v) i g = upr σ i g := upr_upr σ i _ g
theorem fl_spec (hp : p < 4) (xb : Int32) : ∀ (n k i f : Nat) (σ : St), n < k → i + n ≤ 32 → f + (i + n) ≤ 96 → σ 34 p = nI (i + n) → σ 33 p = nI f → lp_MO_fault_81 (nI p) xb k (nI i) σ = up (f_MO_clear (nI p) (upr σ 30 (va_cpy (fun j => σ 31 (32 * p + j)) (σ 30) i (f + i) n))) 29 25 1 := by
  intro n
  induction n with
  | zero =>
    intro k i f σ hk h1 h2 h3 h4
    obtain ⟨k, rfl⟩ : ∃ k', k = k' + 1 := ⟨k - 1, by omega⟩
    simp only [lp_MO_fault_81]
    rw [nIc hp, h3, if_pos ((nIle (by omega) (by omega)).mpr (by omega)), cpy0, upr_same]
  | succ n ih =>
    intro k i f σ hk h1 h2 h3 h4
    obtain ⟨k, rfl⟩ : ∃ k', k = k' + 1 := ⟨k - 1, by omega⟩
    simp only [lp_MO_fault_81]
    rw [nIc hp, h3, if_neg (fun e => by have := (nIle (by omega) (by omega)).mp e; omega), h4, nI_add, nI_clamp (by omega), ix32 hp (vp_in_nI (by omega) (by omega)), nI_clamp (by omega), show nI i + 1 = nI (i + 1) from nI_add i 1]
    rw [ih k (i + 1) f _ (by omega) (by omega) (by omega) (by rw [up_row (by decide), h3]; congr 1; omega) (by rw [up_row (by decide), h4])]
    rw [up_row (show (31 : Nat) ≠ 30 by decide), up_self, cpy_step (fun j => σ 31 (32 * p + j)) (σ 30) i (f + i) n, upr_up]
    rfl
theorem S_rest (h : Re a0 b0 (some p) a b) (hp : p < 4) (xb : Int32) (h3 : ¬ b 39 p = 3) : Re a0 b0 (some p) (f_PT_restart p a) (lp_MO_fault_81 (nI p) xb 33 0 (up b 39 p ((b 39 p) + 1))) := by
  obtain ⟨g1, g2, g3, g4⟩ := h.ic.rg hp
  obtain ⟨f, hf, ef⟩ := nI_of (nlt0 g1)
  obtain ⟨n, hn, en⟩ := nI_of (nlt0 g2)
  rw [ef, nI_toInt hf] at g4
  rw [en, nI_toInt hn] at g3 g4
  have hr := h.rst p hp
  have e39 : b 39 p = a (iP p) 12 := h.pt p 12 39 hp pm12
  have e33 : b 33 p = a (iP p) 1 := h.pt p 1 33 hp pm1
  have e34 : b 34 p = a (iP p) 2 := h.pt p 2 34 hp pm2
  have hr3 : (b 39 p).toInt ≠ 3 := fun e => h3 (Int32.toInt_inj.mp (by rw [e]; decide))
  have hr2 : (b 39 p + 1).toInt = (b 39 p).toInt + 1 := i_succ (N := 3) (by
    rw [ile]
    have z : (3 : Int32).toInt = 3 := by decide
    omega)
  have h1 : Re a0 b0 (some p) (up a (iP p) 12 (a (iP p) 12 + 1)) (up b 39 p (b 39 p + 1)) := by
    rw [← e39]; exact h.upRst hp (by rw [hr2]; omega)
  have k1 : up a (iP p) 12 (a (iP p) 12 + 1) (iP p) 1 = nI f := by rw [up_slot (by decide), ef]
  have k2 : up a (iP p) 12 (a (iP p) 12 + 1) (iP p) 2 = nI n := by rw [up_slot (by decide), en]
  have m1 : up b 39 p (b 39 p + 1) 33 p = nI f := by rw [up_row (by decide), e33, ef]
  have m2 : up b 39 p (b 39 p + 1) 34 p = nI n := by rw [up_row (by decide), e34, en]
  unfold f_PT_restart
  generalize up a (iP p) 12 (a (iP p) 12 + 1) = a1 at h1 k1 k2 ⊢
  generalize up b 39 p (b 39 p + 1) = b1 at h1 m1 m2 ⊢
  rw [k1, k2, show (0 : Int32) = nI 0 from rfl, fl_spec hp xb n 33 0 f _ (by omega) (by omega) (by omega) (by rw [m2]; congr 1; omega) m1, nI_clamp (by omega), nI_clamp (by omega), nI_clamp (by omega)]
  refine (S_clear (h1.setMem (fun j hj => ?_)) hp).upSil hp
  unfold va_cpy
  by_cases q : f ≤ j ∧ j < f + n
  · rw [if_pos q, if_pos (by omega)]
    show b1 31 (32 * p + (0 + (j - (f + 0)))) = _
    rw [h1.img p _ hp (by omega)]; rfl
  · rw [if_neg q, if_neg (by omega)]; exact h1.mem j hj
theorem S_fault (h : Re a0 b0 (some p) a b) (hp : p < 4) (x : Int32) : Re a0 b0 (some p) (f_PT_suffer p x a) (f_MO_fault (nI p) x b) := by
  unfold f_PT_suffer f_MO_fault
  rw [nIc hp]
  have h1 : Re a0 b0 (some p) (up (up a (iP p) 10 (a (iP p) 10 + 1)) (iP p) 11 x) (up (up b i_faults p (b i_faults p + 1)) i_kind p x) := by
    rw [show b i_faults p = a (iP p) 10 from h.pt p 10 37 hp pm10]
    exact (h.upP hp pm10 (by decide) (by decide)).upP hp pm11 (by decide) (by decide)
  generalize up (up a (iP p) 10 (a (iP p) 10 + 1)) (iP p) 11 x = a1 at h1 ⊢
  generalize up (up b i_faults p (b i_faults p + 1)) i_kind p x = b1 at h1 ⊢
  have e3 : b1 35 p = a1 (iP p) 3 := h1.pt p 3 35 hp pm3
  have e5 : b1 36 p = a1 (iP p) 5 := h1.pt p 5 36 hp pm5
  have e12 : b1 39 p = a1 (iP p) 12 := h1.pt p 12 39 hp pm12
  have hr := h1.rst p hp
  rcases h1.pol p hp with q | q | q
  · rw [← e3, q, if_neg (by decide), if_neg (by decide), if_neg (by decide), if_pos rfl]
    exact h1.upP hp pm6 (by decide) (by decide)
  · rw [← e3, q, if_neg (show ¬ (1 : Int32) = 2 by decide), if_pos (show (1 : Int32) = 1 from rfl), if_neg (show ¬ (1 : Int32) = 2 by decide), if_neg (show ¬ (1 : Int32) = 0 by decide)]
    by_cases h3 : b1 39 p = 3
    · rw [if_pos h3, ← e12, h3, if_pos (by decide)]
      exact h1.upP hp pm6 (by decide) (by decide)
    · rw [if_neg h3, ← e12, if_neg (fun e => h3 (Int32.toInt_inj.mp (by
        rw [ile] at e
        have z : (3 : Int32).toInt = 3 := by decide
        omega)))]
      exact S_rest h1 hp x h3
  · rw [← e3, q, if_pos rfl, if_pos rfl, ← e5]
    exact h1.upP hp pm5 (by decide) (by decide)
end SIM3
