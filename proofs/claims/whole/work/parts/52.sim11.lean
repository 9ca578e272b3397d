/-! THE TWO SIDES: boot, its loop -/
section SIM11
variable {a0 b0 a b : St} {o : Option Nat} {p : Nat}
/-- the reference's state with the row of its own fields, and the row of what is full, as they are given -/
def Zg (g z : Nat → Int32) (σ : St) : St := upr (upr σ 29 g) 43 z
theorem Zg_up {g z : Nat → Int32} {σ : St} {i k : Nat} {v : Int32} (h1 : i ≠ 29) (h2 : i ≠ 43) : Zg g z (up σ i k v) = up (Zg g z σ) i k v := by
  funext j l
  unfold Zg
  simp only [upr_at, up_at]
  repeat' split
  all_goals first | rfl | (exfalso; omega)
theorem Zg_upr {g z : Nat → Int32} {σ : St} {i : Nat} {f : Nat → Int32} (h1 : i ≠ 29) (h2 : i ≠ 43) : Zg g z (upr σ i f) = upr (Zg g z σ) i f := by
  funext j l
  unfold Zg
  simp only [upr_at]
  repeat' split
  all_goals first | rfl | (exfalso; omega)
theorem Zg_29 {g z : Nat → Int32} {σ : St} {k : Nat} {v : Int32} : Zg g z (up σ 29 k v) = Zg g z σ := by
  funext j l
  unfold Zg
  simp only [upr_at, up_at]
  repeat' split
  all_goals first | rfl | (exfalso; omega)
theorem Zg_43 {g z : Nat → Int32} {σ : St} {k : Nat} {v : Int32} : Zg g z (up σ 43 k v) = Zg g z σ := by
  funext j l
  unfold Zg
  simp only [upr_at, up_at]
  repeat' split
  all_goals first | rfl | (exfalso; omega)
theorem Zg_row {g z : Nat → Int32} {σ : St} {i : Nat} (h1 : i ≠ 29) (h2 : i ≠ 43) : Zg g z σ i = σ i := by
  unfold Zg; rw [upr_row h2, upr_row h1]
theorem Zg_clr {g z : Nat → Int32} (x : Int32) : ∀ (k : Nat) (i : Int32) (σ : St), Zg g z (lp_MO_clear_9 x k i σ) = lp_MO_clear_9 x k i (Zg g z σ) := by
  intro k
  induction k with
  | zero => intro i σ; rfl
  | succ k ih =>
    intro i σ
    simp only [lp_MO_clear_9]
    split
    · rfl
    · rw [ih, Zg_up (by decide) (by decide)]
theorem Zg_clear {g z : Nat → Int32} (x : Int32) (σ : St) : Zg g z (f_MO_clear x σ) = f_MO_clear x (Zg g z σ) := by
  unfold f_MO_clear
  rw [Zg_clr, Zg_up (by decide) (by decide)]
theorem fr_mclr (x : Int32) {i : Nat} (hi : i ≠ 32) : ∀ (k : Nat) (y : Int32) (σ : St), lp_MO_clear_9 x k y σ i = σ i := by
  intro k
  induction k with
  | zero => intro y σ; rfl
  | succ k ih =>
    intro y σ
    simp only [lp_MO_clear_9]
    split
    · rfl
    · rw [ih]; exact up_row hi
theorem fr_mclear (x : Int32) {i : Nat} (hi : i ≠ 32 ∧ i ≠ 36) (σ : St) : f_MO_clear x σ i = σ i := by
  unfold f_MO_clear
  rw [fr_mclr x hi.1]; exact up_row hi.2
def bU (p : Nat) (σ : St) : St := up (up (up (up (up (up σ 43 p 0) 37 p 0) 38 p 0) 39 p 0) 40 p 0) 41 p 0
def bV (p : Nat) (σ : St) : St := up (bU p σ) 42 p ((if (bU p σ 34 p) ≤ 0 then 0 else 1) : Int32)
def bW (p : Nat) (σ : St) : St := f_MO_clear (nI p) (bV p σ)
def bL (p : Nat) (σ : St) : Int32 × St := lp_MO_boot_184 33 (nI p) (f_MO_mix (bW p σ 33 p) (bW p σ 34 p)) 0 (bW p σ)
def bX (p : Nat) (σ : St) : St := up (up (bL p σ).2 41 p (bL p σ).1) 29 30 (f_MO_mix ((up (bL p σ).2 41 p (bL p σ).1) 29 30) (bL p σ).1)
theorem boot_eq (k : Nat) {i : Nat} (hi : i < 4) (σ : St) : lp_MO_boot_84 (k + 1) (nI i) σ = if (bW i σ 34 i) ≤ 0 then lp_MO_boot_84 k (nI (i + 1)) (bW i σ) else lp_MO_boot_84 k (nI (i + 1)) (bX i σ) := by
  have q' : ¬ (4 : Int32) ≤ nI i := fun e => by have := (nIle (n := 4) (by omega) (by omega)).mp e; omega
  simp only [lp_MO_boot_84]
  rw [if_neg q', show nI i + 1 = nI (i + 1) from nI_add i 1, nIc hi]
  rfl
/-- the loop that copies the image: its state -/
theorem bl_st (hp : p < 4) : ∀ (n k i f : Nat) (m : Int32) (σ : St), n < k → i + n ≤ 32 → f + (i + n) ≤ 96 → σ 34 p = nI (i + n) → σ 33 p = nI f → (lp_MO_boot_184 k (nI p) m (nI i) σ).2 = upr σ 31 (va_cpy (σ 30) (σ 31) (f + i) (32 * p + i) n) := by
  intro n
  induction n with
  | zero =>
    intro k i f m σ hk h1 h2 h3 h4
    obtain ⟨k, rfl⟩ : ∃ k', k = k' + 1 := ⟨k - 1, by omega⟩
    simp only [lp_MO_boot_184]
    rw [nIc hp, h3, if_pos ((nIle (by omega) (by omega)).mpr (by omega)), cpy0, upr_same]
  | succ n ih =>
    intro k i f m σ hk h1 h2 h3 h4
    obtain ⟨k, rfl⟩ : ∃ k', k = k' + 1 := ⟨k - 1, by omega⟩
    simp only [lp_MO_boot_184]
    rw [nIc hp, h3, if_neg (fun e => by have := (nIle (by omega) (by omega)).mp e; omega), h4, nI_add, nI_clamp (by omega), ix32 hp (vp_in_nI (by omega) (by omega)), nI_clamp (by omega), show nI i + 1 = nI (i + 1) from nI_add i 1]
    rw [ih k (i + 1) f _ _ (by omega) (by omega) (by omega) (by rw [up_row (by decide), h3]; congr 1; omega) (by rw [up_row (by decide), h4])]
    rw [up_row (show (30 : Nat) ≠ 31 by decide), up_self, cpy_step (σ 30) (σ 31) (f + i) (32 * p + i) n, upr_up]
    rfl
/-- the loop that copies the image: what it measures, against the class's -/
theorem bl_ms (hp : p < 4) {a' : St} : ∀ (k i f s : Nat) (m : Int32) (σ : St), i ≤ s → s ≤ 32 → f + s ≤ 96 → σ 34 p = nI s → σ 33 p = nI f → a' (iP p) 2 = nI s → (∀ j, j < s → a' (iI p) j = σ 30 (f + j)) → lp_PT_measured_14 p k m (nI i) a' = (lp_MO_boot_184 k (nI p) m (nI i) σ).1 := by
  intro k
  induction k with
  | zero => intro i f s m σ _ _ _ _ _ _ _; rfl
  | succ k ih =>
    intro i f s m σ hi h1 h2 h3 h4 h5 h6
    simp only [lp_MO_boot_184, lp_PT_measured_14]
    rw [nIc hp, h3, h5]
    by_cases q : s ≤ i
    · rw [if_pos ((nIle (by omega) (by omega)).mpr q), if_pos ((nIle (by omega) (by omega)).mpr q)]
    · rw [if_neg (fun e => q ((nIle (by omega) (by omega)).mp e)), if_neg (fun e => q ((nIle (by omega) (by omega)).mp e)), h4, nI_add, nI_clamp (by omega), nI_clamp (by omega), h6 i (by omega), show nI i + 1 = nI (i + 1) from nI_add i 1]
      exact ih (i + 1) f s _ _ (by omega) h1 h2 (by rw [up_row (by decide), h3]) (by rw [up_row (by decide), h4]) h5 (fun j hj => by rw [up_row (by decide)]; exact h6 j hj)
theorem S_start {g z : Nat → Int32} (h : Re a0 b0 none a (Zg g z b)) (hp : p < 4) : (bW p b 34 p ≤ 0 → f_PT_start p a (iP p) 6 = 0 ∧ Re a0 b0 none (f_PT_start p a) (Zg g z (bW p b))) ∧ (¬ bW p b 34 p ≤ 0 → ¬ f_PT_start p a (iP p) 6 = 0 ∧ f_PT_start p a (iP p) 4 = (bL p b).1 ∧ Re a0 b0 none (f_PT_start p a) (Zg g z (bX p b))) := by
  obtain ⟨g1, g2, g3, g4⟩ := h.ic.rg hp
  obtain ⟨f, hf, ef⟩ := nI_of (nlt0 g1)
  obtain ⟨n, hn, en⟩ := nI_of (nlt0 g2)
  rw [ef, nI_toInt hf] at g4
  rw [en, nI_toInt hn] at g3 g4
  have e33 : b 33 p = nI f := by rw [← ef, ← h.pt p 1 33 hp pm1, Zg_row (by decide) (by decide)]
  have e34 : b 34 p = nI n := by rw [← en, ← h.pt p 2 34 hp pm2, Zg_row (by decide) (by decide)]
  have u34 : bU p b 34 = b 34 := by
    unfold bU
    rw [up_row (by decide), up_row (by decide), up_row (by decide), up_row (by decide), up_row (by decide), up_row (by decide)]
  have er : stR p a = ((if (bU p b 34 p) ≤ 0 then 0 else 1) : Int32) := by unfold stR; rw [u34, en, e34]
  have hz : (Zg g z b) 41 p = a (iP p) 4 := h.pt p 4 41 hp pm4
  have h1 : Re a0 b0 none (stA p a) (Zg g z (bV p b)) := by
    unfold stA bV
    rw [← er]
    unfold bU
    rw [Zg_up (by decide) (by decide), Zg_up (by decide) (by decide), Zg_up (by decide) (by decide), Zg_up (by decide) (by decide), Zg_up (by decide) (by decide), Zg_up (by decide) (by decide), Zg_43]
    exact ((((((h.upRestA hp).upP hp pm10 (by decide) (by decide)).upP hp pm11 (by decide) (by decide)).upRst hp (by decide)).upP hp pm13 (by decide) (by decide)).upP hp pm4 (by decide) (by decide)).upP hp pm6 (by decide) (by decide)
  have h2 : Re a0 b0 none (f_PT_clearRegisters p (stA p a)) (Zg g z (bW p b)) := by
    unfold bW
    rw [Zg_clear]
    exact S_clear h1 hp
  have w33 : bW p b 33 p = nI f := by
    unfold bW bV bU
    rw [fr_mclear _ (by decide), up_row (by decide), up_row (by decide), up_row (by decide), up_row (by decide), up_row (by decide), up_row (by decide), up_row (by decide), e33]
  have w34 : bW p b 34 p = nI n := by
    unfold bW bV
    rw [fr_mclear _ (by decide), up_row (by decide), u34, e34]
  have c1 : f_PT_clearRegisters p (stA p a) (iP p) 1 = nI f := by rw [← h2.pt p 1 33 hp pm1, Zg_row (by decide) (by decide), w33]
  have c2 : f_PT_clearRegisters p (stA p a) (iP p) 2 = nI n := by rw [← h2.pt p 2 34 hp pm2, Zg_row (by decide) (by decide), w34]
  have c4 : f_PT_clearRegisters p (stA p a) (iP p) 4 = 0 := by
    rw [clear_spec, upr_row (show iP p ≠ iR p by unfold iP iR; omega), up_slot (by decide)]
    unfold stA
    rw [up_slot (by decide), up_at, if_pos ⟨rfl, rfl⟩]
  have c6 : f_PT_clearRegisters p (stA p a) (iP p) 6 = stR p a := by
    rw [clear_spec, upr_row (show iP p ≠ iR p by unfold iP iR; omega), up_slot (by decide)]
    unfold stA
    rw [up_at, if_pos ⟨rfl, rfl⟩]
  have nPI : iP p ≠ iI p := by unfold iP iI; omega
  have d6 : stB p a (iP p) 6 = stR p a := by unfold stB; rw [upr_row nPI, c6]
  have d4 : stB p a (iP p) 4 = 0 := by unfold stB; rw [upr_row nPI, c4]
  have d1 : stB p a (iP p) 1 = nI f := by unfold stB; rw [upr_row nPI, c1]
  have d2 : stB p a (iP p) 2 = nI n := by unfold stB; rw [upr_row nPI, c2]
  have x6 : f_PT_start p a (iP p) 6 = stR p a := by rw [start_eq, up_slot (by decide), d6]
  refine ⟨fun hs => ?_, fun hs => ?_⟩
  · rw [w34] at hs
    have hn0 : n = 0 := (nIle0 hn).mp hs
    subst hn0
    have r0 : stR p a = 0 := by unfold stR; rw [en]; decide
    refine ⟨by rw [x6, r0], ?_⟩
    have e : f_PT_start p a = f_PT_clearRegisters p (stA p a) := by
      rw [start_eq]
      unfold stMs
      rw [d6, r0, if_pos rfl]
      have e1 : up (stB p a) (iP p) 4 0 = stB p a := by
        funext j k; rw [up_at]; split
        · rename_i q; rw [q.1, q.2, d4]
        · rfl
      rw [e1]
      unfold stB stI
      rw [c2, show (nI 0).toNatClampNeg = 0 from rfl, cpy0, upr_same]
    rw [e]
    exact h2
  · rw [w34] at hs
    have hn0 : n ≠ 0 := fun e => hs ((nIle0 hn).mpr e)
    have r1 : stR p a = 1 := by unfold stR; rw [en, if_neg hs]
    have hm : f_PT_measured p (stB p a) = (bL p b).1 := by
      unfold f_PT_measured bL
      rw [d1, d2, w33, w34]
      refine bl_ms hp 33 0 f n _ _ (by omega) (by omega) (by omega) w34 w33 d2 (fun j hj => ?_)
      unfold stB stI va_cpy
      rw [upr_self, c1, c2, nI_clamp (by omega), nI_clamp (by omega), if_pos (by omega), ← h2.mem _ (by omega), Zg_row (by decide) (by decide)]
      congr 1
    have hb2 : (bL p b).2 = upr (bW p b) 31 (va_cpy (bW p b 30) (bW p b 31) (f + 0) (32 * p + 0) n) := bl_st hp n 33 0 f _ _ (by omega) (by omega) (by omega) (by rw [w34]; congr 1; omega) w33
    have h3 : Re a0 b0 none (stB p a) (Zg g z (bL p b).2) := by
      rw [hb2, Zg_upr (by decide) (by decide)]
      unfold stB stI
      refine h2.setImg hp (fun j hj => ?_) (fun q j hq hqp hj => ?_)
      · unfold va_cpy
        rw [c1, c2, nI_clamp (by omega), nI_clamp (by omega)]
        by_cases q : j < n
        · rw [if_pos (by omega), if_pos (by omega), ← h2.mem _ (by omega), Zg_row (by decide) (by decide)]
          congr 1; omega
        · rw [if_neg (by omega), if_neg (by omega), ← h2.img p j hp hj, Zg_row (by decide) (by decide)]
      · unfold va_cpy
        rw [if_neg (by omega), Zg_row (by decide) (by decide)]
    refine ⟨by rw [x6, r1]; decide, ?_, ?_⟩
    · rw [start_eq, up_at, if_pos ⟨rfl, rfl⟩]
      unfold stMs
      rw [d6, r1, if_neg k1n, hm]
    · rw [start_eq]
      unfold bX stMs
      rw [d6, r1, if_neg k1n, hm, Zg_29, Zg_up (by decide) (by decide)]
      exact h3.upP hp pm4 (by decide) (by decide)
end SIM11
