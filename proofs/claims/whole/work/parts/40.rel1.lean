/-! THE RELATION: the class's part of a state against the reference's part of another -/
theorem up_at (σ : St) (i k : Nat) (v : Int32) (j l : Nat) : up σ i k v j l = if j = i ∧ l = k then v else σ j l := by
  unfold up upr upd
  by_cases h1 : j = i
  · subst h1
    by_cases h2 : l = k
    · simp [h2]
    · simp [h2]
  · simp [h1]
theorem upr_at (σ : St) (i : Nat) (f : Nat → Int32) (j l : Nat) : upr σ i f j l = if j = i then f l else σ j l := by
  unfold upr
  by_cases h1 : j = i
  · simp [h1]
  · simp [h1]
def Pm (k i : Nat) : Prop := (k = 1 ∧ i = 33) ∨ (k = 2 ∧ i = 34) ∨ (k = 3 ∧ i = 35) ∨ (k = 4 ∧ i = 41) ∨ (k = 5 ∧ i = 36) ∨ (k = 6 ∧ i = 42) ∨ (k = 10 ∧ i = 37) ∨ (k = 11 ∧ i = 38) ∨ (k = 12 ∧ i = 39) ∨ (k = 13 ∧ i = 40)
def Cm (k i : Nat) : Prop := (k = 0 ∧ i = 46) ∨ (k = 1 ∧ i = 47) ∨ (k = 2 ∧ i = 48) ∨ (k = 3 ∧ i = 43) ∨ (k = 4 ∧ i = 49) ∨ (k = 5 ∧ i = 50)
def Sm (k i : Nat) : Prop := (k = 0 ∧ i = 51) ∨ (k = 1 ∧ i = 52)
def Gm (i k s : Nat) : Prop := (i = 0 ∧ k = 2 ∧ s = 24) ∨ (i = 0 ∧ k = 3 ∧ s = 32) ∨ (i = 0 ∧ k = 4 ∧ s = 30) ∨ (i = 1 ∧ k = 0 ∧ s = 23) ∨ (i = 1 ∧ k = 5 ∧ s = 29) ∨ (i = 6 ∧ k = 2 ∧ s = 26) ∨ (i = 6 ∧ k = 3 ∧ s = 27) ∨ (i = 6 ∧ k = 4 ∧ s = 28) ∨ (i = 6 ∧ k = 5 ∧ s = 31)
/-- a: the class's cells; b: the reference's. a0, b0: what the other cells hold. o: the partition of the window, while it runs -/
def Re (a0 b0 : St) (o : Option Nat) (a b : St) : Prop := (∀ i, 29 ≤ i → a i = a0 i) ∧ (∀ i, (i < 29 ∨ 52 < i) → b i = b0 i) ∧ (Ic a) ∧ (∀ p k i, p < 4 → Pm k i → b i p = a (iP p) k) ∧ (∀ p k i, p < 4 → Cm k i → b i p = a (iC p) k) ∧ (∀ p k i, p < 4 → Sm k i → b i p = a (iS p) k) ∧ (∀ w, w < 6 → b 44 w = a 7 w) ∧ (∀ w, w < 6 → b 45 w = a 8 w) ∧ (∀ i k s, Gm i k s → b 29 s = a i k) ∧ (∀ j, j < 96 → b 30 j = a 2 j) ∧ (∀ p j, p < 4 → j < 32 → b 31 (32 * p + j) = a (iI p) j) ∧ (∀ p r, p < 4 → r < 16 → b 32 (16 * p + r) = a (iR p) r) ∧ (∀ c, o = some c → c < 4 ∧ b 29 25 = a (iP c) 7) ∧ (∀ p, p < 4 → a (iR p) 0 = 0) ∧ (∀ p, p < 4 → b 35 p = 0 ∨ b 35 p = 1 ∨ b 35 p = 2) ∧ (∀ p, p < 4 → 0 ≤ (b 39 p).toInt ∧ (b 39 p).toInt ≤ 3)
section RE0
variable {a0 b0 a b : St} {o : Option Nat}
theorem Re.fa (h : Re a0 b0 o a b) : ∀ i, 29 ≤ i → a i = a0 i := h.1
theorem Re.fb (h : Re a0 b0 o a b) : ∀ i, (i < 29 ∨ 52 < i) → b i = b0 i := h.2.1
theorem Re.ic (h : Re a0 b0 o a b) : Ic a := h.2.2.1
theorem Re.pt (h : Re a0 b0 o a b) : ∀ p k i, p < 4 → Pm k i → b i p = a (iP p) k := h.2.2.2.1
theorem Re.ch (h : Re a0 b0 o a b) : ∀ p k i, p < 4 → Cm k i → b i p = a (iC p) k := h.2.2.2.2.1
theorem Re.sl (h : Re a0 b0 o a b) : ∀ p k i, p < 4 → Sm k i → b i p = a (iS p) k := h.2.2.2.2.2.1
theorem Re.tp (h : Re a0 b0 o a b) : ∀ w, w < 6 → b 44 w = a 7 w := h.2.2.2.2.2.2.1
theorem Re.tl (h : Re a0 b0 o a b) : ∀ w, w < 6 → b 45 w = a 8 w := h.2.2.2.2.2.2.2.1
theorem Re.sc (h : Re a0 b0 o a b) : ∀ i k s, Gm i k s → b 29 s = a i k := h.2.2.2.2.2.2.2.2.1
theorem Re.mem (h : Re a0 b0 o a b) : ∀ j, j < 96 → b 30 j = a 2 j := h.2.2.2.2.2.2.2.2.2.1
theorem Re.img (h : Re a0 b0 o a b) : ∀ p j, p < 4 → j < 32 → b 31 (32 * p + j) = a (iI p) j := h.2.2.2.2.2.2.2.2.2.2.1
theorem Re.reg (h : Re a0 b0 o a b) : ∀ p r, p < 4 → r < 16 → b 32 (16 * p + r) = a (iR p) r := h.2.2.2.2.2.2.2.2.2.2.2.1
theorem Re.sil (h : Re a0 b0 o a b) : ∀ c, o = some c → c < 4 ∧ b 29 25 = a (iP c) 7 := h.2.2.2.2.2.2.2.2.2.2.2.2.1
theorem Re.x0 (h : Re a0 b0 o a b) : ∀ p, p < 4 → a (iR p) 0 = 0 := h.2.2.2.2.2.2.2.2.2.2.2.2.2.1
theorem Re.pol (h : Re a0 b0 o a b) : ∀ p, p < 4 → b 35 p = 0 ∨ b 35 p = 1 ∨ b 35 p = 2 := h.2.2.2.2.2.2.2.2.2.2.2.2.2.2.1
theorem Re.rst (h : Re a0 b0 o a b) : ∀ p, p < 4 → 0 ≤ (b 39 p).toInt ∧ (b 39 p).toInt ≤ 3 := h.2.2.2.2.2.2.2.2.2.2.2.2.2.2.2
end RE0
section RE1
variable {a0 b0 a b : St} {o : Option Nat}
theorem Re.upP {p k i : Nat} {v : Int32} (h : Re a0 b0 o a b) (hp : p < 4) (hk : Pm k i) (h2 : 2 < k) (h3 : i ≠ 35 ∧ i ≠ 39) : Re a0 b0 o (up a (iP p) k v) (up b i p v) := by
  have hic := Ic.upPT (q := p) (v := v) h.ic h2
  refine ⟨?_, ?_, ?_, ?_, ?_, ?_, ?_, ?_, ?_, ?_, ?_, ?_, ?_, ?_, ?_, ?_⟩
  · intro j hj; rw [up_row (by (simp only [Pm, Cm, Sm, Gm, iP, iR, iI, iC, iS] at *; omega))]; exact h.fa j hj
  · intro j hj; rw [up_row (by (simp only [Pm, Cm, Sm, Gm, iP, iR, iI, iC, iS] at *; omega))]; exact h.fb j hj
  · exact hic
  · intro q k' i' hq hk'; (simp only [up_at, upr_at]; repeat' split) <;> first | rfl | (exfalso; (simp only [Pm, Cm, Sm, Gm, iP, iR, iI, iC, iS] at *; omega)) | exact h.pt q k' i' hq hk'
  · intro q k' i' hq hk'; (simp only [up_at, upr_at]; repeat' split) <;> first | (exfalso; (simp only [Pm, Cm, Sm, Gm, iP, iR, iI, iC, iS] at *; omega)) | exact h.ch q k' i' hq hk'
  · intro q k' i' hq hk'; (simp only [up_at, upr_at]; repeat' split) <;> first | (exfalso; (simp only [Pm, Cm, Sm, Gm, iP, iR, iI, iC, iS] at *; omega)) | exact h.sl q k' i' hq hk'
  · intro w hw; (simp only [up_at, upr_at]; repeat' split) <;> first | (exfalso; (simp only [Pm, Cm, Sm, Gm, iP, iR, iI, iC, iS] at *; omega)) | exact h.tp w hw
  · intro w hw; (simp only [up_at, upr_at]; repeat' split) <;> first | (exfalso; (simp only [Pm, Cm, Sm, Gm, iP, iR, iI, iC, iS] at *; omega)) | exact h.tl w hw
  · intro i' k' s' hg; (simp only [up_at, upr_at]; repeat' split) <;> first | (exfalso; (simp only [Pm, Cm, Sm, Gm, iP, iR, iI, iC, iS] at *; omega)) | exact h.sc i' k' s' hg
  · intro j hj; (simp only [up_at, upr_at]; repeat' split) <;> first | (exfalso; (simp only [Pm, Cm, Sm, Gm, iP, iR, iI, iC, iS] at *; omega)) | exact h.mem j hj
  · intro q j hq hj; (simp only [up_at, upr_at]; repeat' split) <;> first | (exfalso; (simp only [Pm, Cm, Sm, Gm, iP, iR, iI, iC, iS] at *; omega)) | exact h.img q j hq hj
  · intro q j hq hj; (simp only [up_at, upr_at]; repeat' split) <;> first | (exfalso; (simp only [Pm, Cm, Sm, Gm, iP, iR, iI, iC, iS] at *; omega)) | exact h.reg q j hq hj
  · intro c hc; refine ⟨(h.sil c hc).1, ?_⟩; (simp only [up_at, upr_at]; repeat' split) <;> first | (exfalso; (simp only [Pm, Cm, Sm, Gm, iP, iR, iI, iC, iS] at *; omega)) | exact (h.sil c hc).2
  · intro q hq; (simp only [up_at, upr_at]; repeat' split) <;> first | (exfalso; (simp only [Pm, Cm, Sm, Gm, iP, iR, iI, iC, iS] at *; omega)) | exact h.x0 q hq
  · intro q hq; rw [up_row (by (simp only [Pm, Cm, Sm, Gm, iP, iR, iI, iC, iS] at *; omega))]; exact h.pol q hq
  · intro q hq; rw [up_row (by (simp only [Pm, Cm, Sm, Gm, iP, iR, iI, iC, iS] at *; omega))]; exact h.rst q hq
end RE1
