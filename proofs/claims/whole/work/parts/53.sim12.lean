/-! THE TWO SIDES: boot, whole -/
section SIM12
variable {a0 b0 a b : St} {o : Option Nat} {p : Nat}
theorem fr_start (p : Nat) {i : Nat} (hi : i ≠ iP p ∧ i ≠ iR p ∧ i ≠ iI p) (σ : St) : f_PT_start p σ i = σ i := by
  rw [start_eq, up_row hi.1]
  unfold stB
  rw [upr_row hi.2.2, clear_spec, upr_row hi.2.1, up_row hi.1]
  unfold stA
  rw [up_row hi.1, up_row hi.1, up_row hi.1, up_row hi.1, up_row hi.1, up_row hi.1, up_row hi.1]
theorem st_rest (p : Nat) (σ : St) : f_PT_start p σ (iP p) 7 = 0 := by
  rw [start_eq, up_slot (by decide)]
  unfold stB
  rw [upr_row (by unfold iP iI; omega), clear_spec, upr_row (by unfold iP iR; omega), up_slot (by decide)]
  unfold stA
  rw [up_slot (by decide), up_slot (by decide), up_slot (by decide), up_slot (by decide), up_slot (by decide), up_slot (by decide), up_at, if_pos ⟨rfl, rfl⟩]
theorem bW_row (p : Nat) {i : Nat} (hi : i ≠ 43 ∧ i ≠ 37 ∧ i ≠ 38 ∧ i ≠ 39 ∧ i ≠ 40 ∧ i ≠ 41 ∧ i ≠ 42 ∧ i ≠ 32 ∧ i ≠ 36) (σ : St) : bW p σ i = σ i := by
  unfold bW bV bU
  rw [fr_mclear _ ⟨hi.2.2.2.2.2.2.2.1, hi.2.2.2.2.2.2.2.2⟩, up_row hi.2.2.2.2.2.2.1, up_row hi.2.2.2.2.2.1, up_row hi.2.2.2.2.1, up_row hi.2.2.2.1, up_row hi.2.2.1, up_row hi.2.1, up_row hi.1]
theorem bW_43 (p c : Nat) (σ : St) : bW p σ 43 c = if c = p then 0 else σ 43 c := by
  unfold bW bV bU
  rw [fr_mclear _ (by decide), up_row (by decide), up_row (by decide), up_row (by decide), up_row (by decide), up_row (by decide), up_row (by decide), up_at]
  by_cases q : c = p
  · rw [if_pos ⟨rfl, q⟩, if_pos q]
  · rw [if_neg (fun e => q e.2), if_neg q]
theorem fr_184 {i : Nat} (hi : i ≠ 31) : ∀ (k : Nat) (x m y : Int32) (σ : St), (lp_MO_boot_184 k x m y σ).2 i = σ i := by
  intro k
  induction k with
  | zero => intro x m y σ; rfl
  | succ k ih =>
    intro x m y σ
    simp only [lp_MO_boot_184]
    split
    · rfl
    · rw [ih]; exact up_row hi
theorem bX_row (p : Nat) {i : Nat} (hi : i ≠ 43 ∧ i ≠ 37 ∧ i ≠ 38 ∧ i ≠ 39 ∧ i ≠ 40 ∧ i ≠ 41 ∧ i ≠ 42 ∧ i ≠ 32 ∧ i ≠ 36) (h29 : i ≠ 29) (h31 : i ≠ 31) (σ : St) : bX p σ i = σ i := by
  unfold bX bL
  rw [up_row h29, up_row hi.2.2.2.2.2.1, fr_184 h31, bW_row p hi]
theorem bX_43 (p c : Nat) (σ : St) : bX p σ 43 c = if c = p then 0 else σ 43 c := by
  unfold bX bL
  rw [up_row (by decide), up_row (by decide), fr_184 (by decide), bW_43]
theorem bX_29 (p s : Nat) (hs : s ≠ 30) (σ : St) : bX p σ 29 s = σ 29 s := by
  unfold bX bL
  rw [up_slot hs, up_row (by decide), fr_184 (by decide), bW_row p (by decide)]
theorem bX_log (p : Nat) (σ : St) : bX p σ 29 30 = f_MO_mix (σ 29 30) (bL p σ).1 := by
  unfold bX
  rw [up_at, if_pos ⟨rfl, rfl⟩, up_row (by decide)]
  congr 1
  unfold bL
  rw [fr_184 (by decide), bW_row p (by decide)]
/-- what the loop over the partitions gives -/
def Sb (a0 b0 : St) (g z : Nat → Int32) (i : Nat) (a b : St) (E F : Int32 × St) : Prop := E.1 = F.1 ∧ F.2 29 30 = F.1 ∧ Re a0 b0 none E.2 (Zg g z F.2) ∧ (∀ s, s ≠ 30 → F.2 29 s = b 29 s) ∧ (∀ j, j < 9 → E.2 j = a j) ∧ (∀ c, c < 4 → E.2 (iC c) = a (iC c)) ∧ (∀ c, c < 4 → (c < i → b 43 c = 0) → F.2 43 c = 0) ∧ (∀ q, q < 4 → (q < i → a (iP q) 7 = 0) → E.2 (iP q) 7 = 0) ∧ F.2 44 = b 44 ∧ F.2 45 = b 45
theorem S_bootl {g z : Nat → Int32} : ∀ (k i : Nat) (a b : St), 5 ≤ k + i → i ≤ 4 → Re a0 b0 none a (Zg g z b) → Sb a0 b0 g z i a b (lp_MA_start_31 k (b 29 30) (nI i) a) (lp_MO_boot_84 k (nI i) b) := by
  intro k
  induction k with
  | zero => intro i a b h1 h2 h; omega
  | succ k ih =>
    intro i a b h1 h2 h
    by_cases q : i = 4
    · subst q
      have eE : lp_MA_start_31 (k + 1) (b 29 30) (nI 4) a = (b 29 30, a) := by
        simp only [lp_MA_start_31]; rw [if_pos (by decide)]
      have eF : lp_MO_boot_84 (k + 1) (nI 4) b = (b 29 30, b) := by
        simp only [lp_MO_boot_84]; rw [if_pos (by decide)]
      rw [eE, eF]
      exact ⟨rfl, rfl, h, fun _ _ => rfl, fun _ _ => rfl, fun _ _ => rfl, fun c hc hh => hh hc, fun c hc hh => hh hc, rfl, rfl⟩
    · have hi : i < 4 := by omega
      have q' : ¬ (4 : Int32) ≤ nI i := fun e => by have := (nIle (n := 4) (by omega) (by omega)).mp e; omega
      rw [boot_eq k hi b]
      have eE : lp_MA_start_31 (k + 1) (b 29 30) (nI i) a = if f_PT_start i a (iP i) 6 = 0 then lp_MA_start_31 k (b 29 30) (nI (i + 1)) (f_PT_start i a) else lp_MA_start_31 k (f_SM_mix (b 29 30) (f_PT_start i a (iP i) 4)) (nI (i + 1)) (f_PT_start i a) := by
        simp only [lp_MA_start_31]
        rw [if_neg q', show nI i + 1 = nI (i + 1) from nI_add i 1, nIc hi]
      rw [eE]
      obtain ⟨s1, s2⟩ := S_start h hi
      have frs : ∀ j, j < 9 → f_PT_start i a j = a j := fun j hj => fr_start i (by unfold iP iR iI; omega) a
      have frc : ∀ c, c < 4 → f_PT_start i a (iC c) = a (iC c) := fun c hc => fr_start i (by unfold iP iR iI iC; omega) a
      have frp : ∀ c, c < 4 → c ≠ i → f_PT_start i a (iP c) = a (iP c) := fun c hc hne => fr_start i (by unfold iP iR iI; omega) a
      have step : ∀ (b' : St) (E F : Int32 × St), (∀ s, s ≠ 30 → b' 29 s = b 29 s) → (∀ c, b' 43 c = if c = i then 0 else b 43 c) → b' 44 = b 44 → b' 45 = b 45 → Sb a0 b0 g z (i + 1) (f_PT_start i a) b' E F → Sb a0 b0 g z i a b E F := by
        intro b' E F t1 t2 t3 t4 ⟨u1, u2, u3, u4, u5, u6, u7, u8, u9, u10⟩
        refine ⟨u1, u2, u3, fun s hs => (u4 s hs).trans (t1 s hs), fun j hj => (u5 j hj).trans (frs j hj), fun c hc => (u6 c hc).trans (frc c hc), fun c hc hh => u7 c hc (fun hlt => ?_), fun c hc hh => u8 c hc (fun hlt => ?_), u9.trans t3, u10.trans t4⟩
        · rw [t2]
          by_cases e : c = i
          · rw [if_pos e]
          · rw [if_neg e]; exact hh (by omega)
        · by_cases e : c = i
          · rw [e]; exact st_rest i a
          · rw [frp c hc e]; exact hh (by omega)
      by_cases hs : bW i b 34 i ≤ 0
      · obtain ⟨r1, r2⟩ := s1 hs
        rw [if_pos r1, if_pos hs]
        have e30 : b 29 30 = bW i b 29 30 := by rw [bW_row i (by decide)]
        rw [e30]
        exact step (bW i b) _ _ (fun s _ => by rw [bW_row i (by decide)]) (fun c => bW_43 i c b) (bW_row i (by decide) b) (bW_row i (by decide) b) (ih (i + 1) _ _ (by omega) (by omega) r2)
      · obtain ⟨r1, r2, r3⟩ := s2 hs
        rw [if_neg r1, if_neg hs, r2]
        have e30 : f_SM_mix (b 29 30) (bL i b).1 = bX i b 29 30 := (bX_log i b).symm
        rw [e30]
        exact step (bX i b) _ _ (fun s hs => bX_29 i s hs b) (fun c => bX_43 i c b) (bX_row i (by decide) (by decide) (by decide) b) (bX_row i (by decide) (by decide) (by decide) b) (ih (i + 1) _ _ (by omega) (by omega) r3)
theorem Re.scal {a' b' : St} (h : Re a0 b0 none a b) (hic : Ic a') (ra : ∀ i, i ≠ 0 → i ≠ 1 → i ≠ 6 → a' i = a i) (rb : ∀ i, i ≠ 29 → i ≠ 43 → b' i = b i) (hg : ∀ i k s, Gm i k s → b' 29 s = a' i k) (hf : ∀ c, c < 4 → b' 43 c = a' (iC c) 3) : Re a0 b0 none a' b' := by
  have rP : ∀ q, a' (iP q) = a (iP q) := fun q => ra _ (by unfold iP; omega) (by unfold iP; omega) (by unfold iP; omega)
  have rR : ∀ q, a' (iR q) = a (iR q) := fun q => ra _ (by unfold iR; omega) (by unfold iR; omega) (by unfold iR; omega)
  have rI : ∀ q, a' (iI q) = a (iI q) := fun q => ra _ (by unfold iI; omega) (by unfold iI; omega) (by unfold iI; omega)
  have rC : ∀ q, a' (iC q) = a (iC q) := fun q => ra _ (by unfold iC; omega) (by unfold iC; omega) (by unfold iC; omega)
  have rS : ∀ q, a' (iS q) = a (iS q) := fun q => ra _ (by unfold iS; omega) (by unfold iS; omega) (by unfold iS; omega)
  refine ⟨fun j hj => ?_, fun j hj => ?_, hic, fun q k i hq hk => ?_, fun q k i hq hk => ?_, fun q k i hq hk => ?_, fun w hw => ?_, fun w hw => ?_, hg, fun j hj => ?_, fun q j hq hj => ?_, fun q j hq hj => ?_, fun c hc => ?_, fun q hq => ?_, fun q hq => ?_, fun q hq => ?_⟩
  · rw [ra j (by omega) (by omega) (by omega)]; exact h.fa j hj
  · rw [rb j (by omega) (by omega)]; exact h.fb j hj
  · rw [rb i (by unfold Pm at hk; omega) (by unfold Pm at hk; omega), rP]; exact h.pt q k i hq hk
  · by_cases e : i = 43
    · have e3 : k = 3 := by unfold Cm at hk; omega
      rw [e, e3]; exact hf q hq
    · rw [rb i (by unfold Cm at hk; omega) e, rC]; exact h.ch q k i hq hk
  · rw [rb i (by unfold Sm at hk; omega) (by unfold Sm at hk; omega), rS]; exact h.sl q k i hq hk
  · rw [rb 44 (by decide) (by decide), ra 7 (by decide) (by decide) (by decide)]; exact h.tp w hw
  · rw [rb 45 (by decide) (by decide), ra 8 (by decide) (by decide) (by decide)]; exact h.tl w hw
  · rw [rb 30 (by decide) (by decide), ra 2 (by decide) (by decide) (by decide)]; exact h.mem j hj
  · rw [rb 31 (by decide) (by decide), rI]; exact h.img q j hq hj
  · rw [rb 32 (by decide) (by decide), rR]; exact h.reg q j hq hj
  · exact absurd hc (by simp)
  · rw [rR]; exact h.x0 q hq
  · rw [rb 35 (by decide) (by decide)]; exact h.pol q hq
  · rw [rb 39 (by decide) (by decide)]; exact h.rst q hq
end SIM12
