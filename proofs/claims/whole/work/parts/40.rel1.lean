/-! THE RELATION: the class's part of a state against the reference's part of another -/
theorem up_at (σ : St) (i k : Nat) (v : Int32) (j l : Nat) : up σ i k v j l = if j = i ∧ l = k then v else σ j l := by
  unfold up upr upd
  by_cases h1 : j = i
  · subst h1
    by_cases h2 : l = k
    · simp [h2]
    · simp [h2]
  · simp [h1]
theorem upr_at (σ : St) (i : Nat) (f : Nat → Int32) (j l : Nat) : upr σ i f j l = if j = i then f l else σ j l := by
  unfold upr
  by_cases h1 : j = i
  · simp [h1]
  · simp [h1]
def Pm (k i : Nat) : Prop := (k = 1 ∧ i = 33) ∨ (k = 2 ∧ i = 34) ∨ (k = 3 ∧ i = 35) ∨ (k = 4 ∧ i = 41) ∨ (k = 5 ∧ i = 36) ∨ (k = 6 ∧ i = 42) ∨ (k = 10 ∧ i = 37) ∨ (k = 11 ∧ i = 38) ∨ (k = 12 ∧ i = 39) ∨ (k = 13 ∧ i = 40)
def Cm (k i : Nat) : Prop := (k = 0 ∧ i = 46) ∨ (k = 1 ∧ i = 47) ∨ (k = 2 ∧ i = 48) ∨ (k = 3 ∧ i = 43) ∨ (k = 4 ∧ i = 49) ∨ (k = 5 ∧ i = 50)
def Sm (k i : Nat) : Prop := (k = 0 ∧ i = 51) ∨ (k = 1 ∧ i = 52)
def Gm (i k s : Nat) : Prop := (i = 0 ∧ k = 2 ∧ s = 24) ∨ (i = 0 ∧ k = 3 ∧ s = 32) ∨ (i = 0 ∧ k = 4 ∧ s = 30) ∨ (i = 1 ∧ k = 0 ∧ s = 23) ∨ (i = 1 ∧ k = 5 ∧ s = 29) ∨ (i = 6 ∧ k = 2 ∧ s = 26) ∨ (i = 6 ∧ k = 3 ∧ s = 27) ∨ (i = 6 ∧ k = 4 ∧ s = 28) ∨ (i = 6 ∧ k = 5 ∧ s = 31)
/-- a: the class's cells; b: the reference's. a0, b0: what the other cells hold. o: the partition of the window, while it runs -/
def Re (a0 b0 : St) (o : Option Nat) (a b : St) : Prop := (∀ i, 29 ≤ i → a i = a0 i) ∧ (∀ i, (i < 29 ∨ 52 < i) → b i = b0 i) ∧ (Ic a) ∧ (∀ p k i, p < 4 → Pm k i → b i p = a (iP p) k) ∧ (∀ p k i, p < 4 → Cm k i → b i p = a (iC p) k) ∧ (∀ p k i, p < 4 → Sm k i → b i p = a (iS p) k) ∧ (∀ w, w < 6 → b 44 w = a 7 w) ∧ (∀ w, w < 6 → b 45 w = a 8 w) ∧ (∀ i k s, Gm i k s → b 29 s = a i k) ∧ (∀ j, j < 96 → b 30 j = a 2 j) ∧ (∀ p j, p < 4 → j < 32 → b 31 (32 * p + j) = a (iI p) j) ∧ (∀ p r, p < 4 → r < 16 → b 32 (16 * p + r) = a (iR p) r) ∧ (∀ c, o = some c → c < 4 ∧ b 29 25 = a (iP c) 7) ∧ (∀ p, p < 4 → a (iR p) 0 = 0) ∧ (∀ p, p < 4 → b 35 p = 0 ∨ b 35 p = 1 ∨ b 35 p = 2) ∧ (∀ p, p < 4 → 0 ≤ (b 39 p).toInt ∧ (b 39 p).toInt ≤ 3)
section RE0
variable {a0 b0 a b : St} {o : Option Nat}
theorem Re.fa (h : Re a0 b0 o a b) : ∀ i, 29 ≤ i → a i = a0 i := h.1
theorem Re.fb (h : Re a0 b0 o a b) : ∀ i, (i < 29 ∨ 52 < i) → b i = b0 i := h.2.1
theorem Re.ic (h : Re a0 b0 o a b) : Ic a := h.2.2.1
theorem Re.pt (h : Re a0 b0 o a b) : ∀ p k i, p < 4 → Pm k i → b i p = a (iP p) k := h.2.2.2.1
theorem Re.ch (h : Re a0 b0 o a b) : ∀ p k i, p < 4 → Cm k i → b i p = a (iC p) k := h.2.2.2.2.1
theorem Re.sl (h : Re a0 b0 o a b) : ∀ p k i, p < 4 → Sm k i → b i p = a (iS p) k := h.2.2.2.2.2.1
theorem Re.tp (h : Re a0 b0 o a b) : ∀ w, w < 6 → b 44 w = a 7 w := h.2.2.2.2.2.2.1
theorem Re.tl (h : Re a0 b0 o a b) : ∀ w, w < 6 → b 45 w = a 8 w := h.2.2.2.2.2.2.2.1
theorem Re.sc (h : Re a0 b0 o a b) : ∀ i k s, Gm i k s → b 29 s = a i k := h.2.2.2.2.2.2.2.2.1
theorem Re.mem (h : Re a0 b0 o a b) : ∀ j, j < 96 → b 30 j = a 2 j := h.2.2.2.2.2.2.2.2.2.1
theorem Re.img (h : Re a0 b0 o a b) : ∀ p j, p < 4 → j < 32 → b 31 (32 * p + j) = a (iI p) j := h.2.2.2.2.2.2.2.2.2.2.1
theorem Re.reg (h : Re a0 b0 o a b) : ∀ p r, p < 4 → r < 16 → b 32 (16 * p + r) = a (iR p) r := h.2.2.2.2.2.2.2.2.2.2.2.1
theorem Re.sil (h : Re a0 b0 o a b) : ∀ c, o = some c → c < 4 ∧ b 29 25 = a (iP c) 7 := h.2.2.2.2.2.2.2.2.2.2.2.2.1
theorem Re.x0 (h : Re a0 b0 o a b) : ∀ p, p < 4 → a (iR p) 0 = 0 := h.2.2.2.2.2.2.2.2.2.2.2.2.2.1
theorem Re.pol (h : Re a0 b0 o a b) : ∀ p, p < 4 → b 35 p = 0 ∨ b 35 p = 1 ∨ b 35 p = 2 := h.2.2.2.2.2.2.2.2.2.2.2.2.2.2.1
theorem Re.rst (h : Re a0 b0 o a b) : ∀ p, p < 4 → 0 ≤ (b 39 p).toInt ∧ (b 39 p).toInt ≤ 3 := h.2.2.2.2.2.2.2.2.2.2.2.2.2.2.2
end RE0
section RE1
variable {a0 b0 a b : St} {o : Option Nat}
theorem Re.upP {p k i : Nat} {v : Int32} (h : Re a0 b0 o a b) (hp : p < 4) (hk : Pm k i) (h2 : 2 < k) (h3 : i ≠ 35 ∧ i ≠ 39) : Re a0 b0 o (up a (iP p) k v) (up b i p v) := by
  have hic := Ic.upPT (q := p) (v := v) h.ic h2
  refine ⟨?_, ?_, ?_, ?_, ?_, ?_, ?_, ?_, ?_, ?_, ?_, ?_, ?_, ?_, ?_, ?_⟩
  · intro j hj; rw [up_row (by (first | omega | (simp only [Pm, Cm, Sm, Gm, iP, iR, iI, iC, iS, true_and, and_true] at *; omega)))]; exact h.fa j hj
  · intro j hj; rw [up_row (by (first | omega | (simp only [Pm, Cm, Sm, Gm, iP, iR, iI, iC, iS, true_and, and_true] at *; omega)))]; exact h.fb j hj
  · exact hic
  · intro q k' i' hq hk'; (simp only [up_at, upr_at]; repeat' split) <;> first | rfl | (exfalso; (first | omega | (simp only [Pm, Cm, Sm, Gm, iP, iR, iI, iC, iS, true_and, and_true] at *; omega))) | exact h.pt q k' i' hq hk'
  · intro q k' i' hq hk'; (simp only [up_at, upr_at]; repeat' split) <;> first | (exfalso; (first | omega | (simp only [Pm, Cm, Sm, Gm, iP, iR, iI, iC, iS, true_and, and_true] at *; omega))) | exact h.ch q k' i' hq hk'
  · intro q k' i' hq hk'; (simp only [up_at, upr_at]; repeat' split) <;> first | (exfalso; (first | omega | (simp only [Pm, Cm, Sm, Gm, iP, iR, iI, iC, iS, true_and, and_true] at *; omega))) | exact h.sl q k' i' hq hk'
  · intro w hw; (simp only [up_at, upr_at]; repeat' split) <;> first | (exfalso; (first | omega | (simp only [Pm, Cm, Sm, Gm, iP, iR, iI, iC, iS, true_and, and_true] at *; omega))) | exact h.tp w hw
  · intro w hw; (simp only [up_at, upr_at]; repeat' split) <;> first | (exfalso; (first | omega | (simp only [Pm, Cm, Sm, Gm, iP, iR, iI, iC, iS, true_and, and_true] at *; omega))) | exact h.tl w hw
  · intro i' k' s' hg; (simp only [up_at, upr_at]; repeat' split) <;> first | (exfalso; (first | omega | (simp only [Pm, Cm, Sm, Gm, iP, iR, iI, iC, iS, true_and, and_true] at *; omega))) | exact h.sc i' k' s' hg
  · intro j hj; (simp only [up_at, upr_at]; repeat' split) <;> first | (exfalso; (first | omega | (simp only [Pm, Cm, Sm, Gm, iP, iR, iI, iC, iS, true_and, and_true] at *; omega))) | exact h.mem j hj
  · intro q j hq hj; (simp only [up_at, upr_at]; repeat' split) <;> first | (exfalso; (first | omega | (simp only [Pm, Cm, Sm, Gm, iP, iR, iI, iC, iS, true_and, and_true] at *; omega))) | exact h.img q j hq hj
  · intro q j hq hj; (simp only [up_at, upr_at]; repeat' split) <;> first | (exfalso; (first | omega | (simp only [Pm, Cm, Sm, Gm, iP, iR, iI, iC, iS, true_and, and_true] at *; omega))) | exact h.reg q j hq hj
  · intro c hc; refine ⟨(h.sil c hc).1, ?_⟩; (simp only [up_at, upr_at]; repeat' split) <;> first | (exfalso; (first | omega | (simp only [Pm, Cm, Sm, Gm, iP, iR, iI, iC, iS, true_and, and_true] at *; omega))) | exact (h.sil c hc).2
  · intro q hq; (simp only [up_at, upr_at]; repeat' split) <;> first | (exfalso; (first | omega | (simp only [Pm, Cm, Sm, Gm, iP, iR, iI, iC, iS, true_and, and_true] at *; omega))) | exact h.x0 q hq
  · intro q hq; rw [up_row (by (first | omega | (simp only [Pm, Cm, Sm, Gm, iP, iR, iI, iC, iS, true_and, and_true] at *; omega)))]; exact h.pol q hq
  · intro q hq; rw [up_row (by (first | omega | (simp only [Pm, Cm, Sm, Gm, iP, iR, iI, iC, iS, true_and, and_true] at *; omega)))]; exact h.rst q hq
theorem Re.upPol {p : Nat} {v : Int32} (h : Re a0 b0 o a b) (hp : p < 4) (hv : v = 0 ∨ v = 1 ∨ v = 2) : Re a0 b0 o (up a (iP p) 3 v) (up b 35 p v) := by
  have hic := Ic.upPT (q := p) (v := v) h.ic (show 2 < 3 by decide)
  refine ⟨?_, ?_, ?_, ?_, ?_, ?_, ?_, ?_, ?_, ?_, ?_, ?_, ?_, ?_, ?_, ?_⟩
  · intro j hj; rw [up_row (by (first | omega | (simp only [Pm, Cm, Sm, Gm, iP, iR, iI, iC, iS, true_and, and_true] at *; omega)))]; exact h.fa j hj
  · intro j hj; rw [up_row (by (first | omega | (simp only [Pm, Cm, Sm, Gm, iP, iR, iI, iC, iS, true_and, and_true] at *; omega)))]; exact h.fb j hj
  · exact hic
  · intro q k' i' hq hk'; (simp only [up_at, upr_at]; repeat' split) <;> first | rfl | (exfalso; (first | omega | (simp only [Pm, Cm, Sm, Gm, iP, iR, iI, iC, iS, true_and, and_true] at *; omega))) | exact h.pt q k' i' hq hk'
  · intro q k' i' hq hk'; (simp only [up_at, upr_at]; repeat' split) <;> first | (exfalso; (first | omega | (simp only [Pm, Cm, Sm, Gm, iP, iR, iI, iC, iS, true_and, and_true] at *; omega))) | exact h.ch q k' i' hq hk'
  · intro q k' i' hq hk'; (simp only [up_at, upr_at]; repeat' split) <;> first | (exfalso; (first | omega | (simp only [Pm, Cm, Sm, Gm, iP, iR, iI, iC, iS, true_and, and_true] at *; omega))) | exact h.sl q k' i' hq hk'
  · intro w hw; (simp only [up_at, upr_at]; repeat' split) <;> first | (exfalso; (first | omega | (simp only [Pm, Cm, Sm, Gm, iP, iR, iI, iC, iS, true_and, and_true] at *; omega))) | exact h.tp w hw
  · intro w hw; (simp only [up_at, upr_at]; repeat' split) <;> first | (exfalso; (first | omega | (simp only [Pm, Cm, Sm, Gm, iP, iR, iI, iC, iS, true_and, and_true] at *; omega))) | exact h.tl w hw
  · intro i' k' s' hg; (simp only [up_at, upr_at]; repeat' split) <;> first | (exfalso; (first | omega | (simp only [Pm, Cm, Sm, Gm, iP, iR, iI, iC, iS, true_and, and_true] at *; omega))) | exact h.sc i' k' s' hg
  · intro j hj; (simp only [up_at, upr_at]; repeat' split) <;> first | (exfalso; (first | omega | (simp only [Pm, Cm, Sm, Gm, iP, iR, iI, iC, iS, true_and, and_true] at *; omega))) | exact h.mem j hj
  · intro q j hq hj; (simp only [up_at, upr_at]; repeat' split) <;> first | (exfalso; (first | omega | (simp only [Pm, Cm, Sm, Gm, iP, iR, iI, iC, iS, true_and, and_true] at *; omega))) | exact h.img q j hq hj
  · intro q j hq hj; (simp only [up_at, upr_at]; repeat' split) <;> first | (exfalso; (first | omega | (simp only [Pm, Cm, Sm, Gm, iP, iR, iI, iC, iS, true_and, and_true] at *; omega))) | exact h.reg q j hq hj
  · intro c hc; refine ⟨(h.sil c hc).1, ?_⟩; (simp only [up_at, upr_at]; repeat' split) <;> first | (exfalso; (first | omega | (simp only [Pm, Cm, Sm, Gm, iP, iR, iI, iC, iS, true_and, and_true] at *; omega))) | exact (h.sil c hc).2
  · intro q hq; (simp only [up_at, upr_at]; repeat' split) <;> first | (exfalso; (first | omega | (simp only [Pm, Cm, Sm, Gm, iP, iR, iI, iC, iS, true_and, and_true] at *; omega))) | exact h.x0 q hq
  · intro q hq; simp only [up_at]; split
    · exact hv
    · exact h.pol q hq
  · intro q hq; rw [up_row (by (first | omega | (simp only [Pm, Cm, Sm, Gm, iP, iR, iI, iC, iS, true_and, and_true] at *; omega)))]; exact h.rst q hq
theorem Re.upRst {p : Nat} {v : Int32} (h : Re a0 b0 o a b) (hp : p < 4) (hv : 0 ≤ v.toInt ∧ v.toInt ≤ 3) : Re a0 b0 o (up a (iP p) 12 v) (up b 39 p v) := by
  have hic := Ic.upPT (q := p) (v := v) h.ic (show 2 < 12 by decide)
  refine ⟨?_, ?_, ?_, ?_, ?_, ?_, ?_, ?_, ?_, ?_, ?_, ?_, ?_, ?_, ?_, ?_⟩
  · intro j hj; rw [up_row (by (first | omega | (simp only [Pm, Cm, Sm, Gm, iP, iR, iI, iC, iS, true_and, and_true] at *; omega)))]; exact h.fa j hj
  · intro j hj; rw [up_row (by (first | omega | (simp only [Pm, Cm, Sm, Gm, iP, iR, iI, iC, iS, true_and, and_true] at *; omega)))]; exact h.fb j hj
  · exact hic
  · intro q k' i' hq hk'; (simp only [up_at, upr_at]; repeat' split) <;> first | rfl | (exfalso; (first | omega | (simp only [Pm, Cm, Sm, Gm, iP, iR, iI, iC, iS, true_and, and_true] at *; omega))) | exact h.pt q k' i' hq hk'
  · intro q k' i' hq hk'; (simp only [up_at, upr_at]; repeat' split) <;> first | (exfalso; (first | omega | (simp only [Pm, Cm, Sm, Gm, iP, iR, iI, iC, iS, true_and, and_true] at *; omega))) | exact h.ch q k' i' hq hk'
  · intro q k' i' hq hk'; (simp only [up_at, upr_at]; repeat' split) <;> first | (exfalso; (first | omega | (simp only [Pm, Cm, Sm, Gm, iP, iR, iI, iC, iS, true_and, and_true] at *; omega))) | exact h.sl q k' i' hq hk'
  · intro w hw; (simp only [up_at, upr_at]; repeat' split) <;> first | (exfalso; (first | omega | (simp only [Pm, Cm, Sm, Gm, iP, iR, iI, iC, iS, true_and, and_true] at *; omega))) | exact h.tp w hw
  · intro w hw; (simp only [up_at, upr_at]; repeat' split) <;> first | (exfalso; (first | omega | (simp only [Pm, Cm, Sm, Gm, iP, iR, iI, iC, iS, true_and, and_true] at *; omega))) | exact h.tl w hw
  · intro i' k' s' hg; (simp only [up_at, upr_at]; repeat' split) <;> first | (exfalso; (first | omega | (simp only [Pm, Cm, Sm, Gm, iP, iR, iI, iC, iS, true_and, and_true] at *; omega))) | exact h.sc i' k' s' hg
  · intro j hj; (simp only [up_at, upr_at]; repeat' split) <;> first | (exfalso; (first | omega | (simp only [Pm, Cm, Sm, Gm, iP, iR, iI, iC, iS, true_and, and_true] at *; omega))) | exact h.mem j hj
  · intro q j hq hj; (simp only [up_at, upr_at]; repeat' split) <;> first | (exfalso; (first | omega | (simp only [Pm, Cm, Sm, Gm, iP, iR, iI, iC, iS, true_and, and_true] at *; omega))) | exact h.img q j hq hj
  · intro q j hq hj; (simp only [up_at, upr_at]; repeat' split) <;> first | (exfalso; (first | omega | (simp only [Pm, Cm, Sm, Gm, iP, iR, iI, iC, iS, true_and, and_true] at *; omega))) | exact h.reg q j hq hj
  · intro c hc; refine ⟨(h.sil c hc).1, ?_⟩; (simp only [up_at, upr_at]; repeat' split) <;> first | (exfalso; (first | omega | (simp only [Pm, Cm, Sm, Gm, iP, iR, iI, iC, iS, true_and, and_true] at *; omega))) | exact (h.sil c hc).2
  · intro q hq; (simp only [up_at, upr_at]; repeat' split) <;> first | (exfalso; (first | omega | (simp only [Pm, Cm, Sm, Gm, iP, iR, iI, iC, iS, true_and, and_true] at *; omega))) | exact h.x0 q hq
  · intro q hq; rw [up_row (by (first | omega | (simp only [Pm, Cm, Sm, Gm, iP, iR, iI, iC, iS, true_and, and_true] at *; omega)))]; exact h.pol q hq
  · intro q hq; simp only [up_at]; split
    · exact hv
    · exact h.rst q hq
theorem Re.upRegion {p : Nat} {x y : Int32} (h : Re a0 b0 o a b) (hp : p < 4) (hic : Ic (up (up a (iP p) 1 x) (iP p) 2 y)) : Re a0 b0 o (up (up a (iP p) 1 x) (iP p) 2 y) (up (up b 33 p x) 34 p y) := by
  refine ⟨?_, ?_, ?_, ?_, ?_, ?_, ?_, ?_, ?_, ?_, ?_, ?_, ?_, ?_, ?_, ?_⟩
  · intro j hj; rw [up_row (by (first | omega | (simp only [Pm, Cm, Sm, Gm, iP, iR, iI, iC, iS, true_and, and_true] at *; omega))), up_row (by (first | omega | (simp only [Pm, Cm, Sm, Gm, iP, iR, iI, iC, iS, true_and, and_true] at *; omega)))]; exact h.fa j hj
  · intro j hj; rw [up_row (by (first | omega | (simp only [Pm, Cm, Sm, Gm, iP, iR, iI, iC, iS, true_and, and_true] at *; omega))), up_row (by (first | omega | (simp only [Pm, Cm, Sm, Gm, iP, iR, iI, iC, iS, true_and, and_true] at *; omega)))]; exact h.fb j hj
  · exact hic
  · intro q k' i' hq hk'; (simp only [up_at, upr_at]; repeat' split) <;> first | rfl | (exfalso; (first | omega | (simp only [Pm, Cm, Sm, Gm, iP, iR, iI, iC, iS, true_and, and_true] at *; omega))) | exact h.pt q k' i' hq hk'
  · intro q k' i' hq hk'; (simp only [up_at, upr_at]; repeat' split) <;> first | (exfalso; (first | omega | (simp only [Pm, Cm, Sm, Gm, iP, iR, iI, iC, iS, true_and, and_true] at *; omega))) | exact h.ch q k' i' hq hk'
  · intro q k' i' hq hk'; (simp only [up_at, upr_at]; repeat' split) <;> first | (exfalso; (first | omega | (simp only [Pm, Cm, Sm, Gm, iP, iR, iI, iC, iS, true_and, and_true] at *; omega))) | exact h.sl q k' i' hq hk'
  · intro w hw; (simp only [up_at, upr_at]; repeat' split) <;> first | (exfalso; (first | omega | (simp only [Pm, Cm, Sm, Gm, iP, iR, iI, iC, iS, true_and, and_true] at *; omega))) | exact h.tp w hw
  · intro w hw; (simp only [up_at, upr_at]; repeat' split) <;> first | (exfalso; (first | omega | (simp only [Pm, Cm, Sm, Gm, iP, iR, iI, iC, iS, true_and, and_true] at *; omega))) | exact h.tl w hw
  · intro i' k' s' hg; (simp only [up_at, upr_at]; repeat' split) <;> first | (exfalso; (first | omega | (simp only [Pm, Cm, Sm, Gm, iP, iR, iI, iC, iS, true_and, and_true] at *; omega))) | exact h.sc i' k' s' hg
  · intro j hj; (simp only [up_at, upr_at]; repeat' split) <;> first | (exfalso; (first | omega | (simp only [Pm, Cm, Sm, Gm, iP, iR, iI, iC, iS, true_and, and_true] at *; omega))) | exact h.mem j hj
  · intro q j hq hj; (simp only [up_at, upr_at]; repeat' split) <;> first | (exfalso; (first | omega | (simp only [Pm, Cm, Sm, Gm, iP, iR, iI, iC, iS, true_and, and_true] at *; omega))) | exact h.img q j hq hj
  · intro q j hq hj; (simp only [up_at, upr_at]; repeat' split) <;> first | (exfalso; (first | omega | (simp only [Pm, Cm, Sm, Gm, iP, iR, iI, iC, iS, true_and, and_true] at *; omega))) | exact h.reg q j hq hj
  · intro c hc; refine ⟨(h.sil c hc).1, ?_⟩; (simp only [up_at, upr_at]; repeat' split) <;> first | (exfalso; (first | omega | (simp only [Pm, Cm, Sm, Gm, iP, iR, iI, iC, iS, true_and, and_true] at *; omega))) | exact (h.sil c hc).2
  · intro q hq; (simp only [up_at, upr_at]; repeat' split) <;> first | (exfalso; (first | omega | (simp only [Pm, Cm, Sm, Gm, iP, iR, iI, iC, iS, true_and, and_true] at *; omega))) | exact h.x0 q hq
  · intro q hq; rw [up_row (by (first | omega | (simp only [Pm, Cm, Sm, Gm, iP, iR, iI, iC, iS, true_and, and_true] at *; omega))), up_row (by (first | omega | (simp only [Pm, Cm, Sm, Gm, iP, iR, iI, iC, iS, true_and, and_true] at *; omega)))]; exact h.pol q hq
  · intro q hq; rw [up_row (by (first | omega | (simp only [Pm, Cm, Sm, Gm, iP, iR, iI, iC, iS, true_and, and_true] at *; omega))), up_row (by (first | omega | (simp only [Pm, Cm, Sm, Gm, iP, iR, iI, iC, iS, true_and, and_true] at *; omega)))]; exact h.rst q hq
theorem Re.upC {p k i : Nat} {v : Int32} (h : Re a0 b0 o a b) (hp : p < 4) (hk : Cm k i) : Re a0 b0 o (up a (iC p) k v) (up b i p v) := by
  have hic := Ic.upCH (q := p) (k := k) (v := v) h.ic
  refine ⟨?_, ?_, ?_, ?_, ?_, ?_, ?_, ?_, ?_, ?_, ?_, ?_, ?_, ?_, ?_, ?_⟩
  · intro j hj; rw [up_row (by (first | omega | (simp only [Pm, Cm, Sm, Gm, iP, iR, iI, iC, iS, true_and, and_true] at *; omega)))]; exact h.fa j hj
  · intro j hj; rw [up_row (by (first | omega | (simp only [Pm, Cm, Sm, Gm, iP, iR, iI, iC, iS, true_and, and_true] at *; omega)))]; exact h.fb j hj
  · exact hic
  · intro q k' i' hq hk'; (simp only [up_at, upr_at]; repeat' split) <;> first | (exfalso; (first | omega | (simp only [Pm, Cm, Sm, Gm, iP, iR, iI, iC, iS, true_and, and_true] at *; omega))) | exact h.pt q k' i' hq hk'
  · intro q k' i' hq hk'; (simp only [up_at, upr_at]; repeat' split) <;> first | rfl | (exfalso; (first | omega | (simp only [Pm, Cm, Sm, Gm, iP, iR, iI, iC, iS, true_and, and_true] at *; omega))) | exact h.ch q k' i' hq hk'
  · intro q k' i' hq hk'; (simp only [up_at, upr_at]; repeat' split) <;> first | (exfalso; (first | omega | (simp only [Pm, Cm, Sm, Gm, iP, iR, iI, iC, iS, true_and, and_true] at *; omega))) | exact h.sl q k' i' hq hk'
  · intro w hw; (simp only [up_at, upr_at]; repeat' split) <;> first | (exfalso; (first | omega | (simp only [Pm, Cm, Sm, Gm, iP, iR, iI, iC, iS, true_and, and_true] at *; omega))) | exact h.tp w hw
  · intro w hw; (simp only [up_at, upr_at]; repeat' split) <;> first | (exfalso; (first | omega | (simp only [Pm, Cm, Sm, Gm, iP, iR, iI, iC, iS, true_and, and_true] at *; omega))) | exact h.tl w hw
  · intro i' k' s' hg; (simp only [up_at, upr_at]; repeat' split) <;> first | (exfalso; (first | omega | (simp only [Pm, Cm, Sm, Gm, iP, iR, iI, iC, iS, true_and, and_true] at *; omega))) | exact h.sc i' k' s' hg
  · intro j hj; (simp only [up_at, upr_at]; repeat' split) <;> first | (exfalso; (first | omega | (simp only [Pm, Cm, Sm, Gm, iP, iR, iI, iC, iS, true_and, and_true] at *; omega))) | exact h.mem j hj
  · intro q j hq hj; (simp only [up_at, upr_at]; repeat' split) <;> first | (exfalso; (first | omega | (simp only [Pm, Cm, Sm, Gm, iP, iR, iI, iC, iS, true_and, and_true] at *; omega))) | exact h.img q j hq hj
  · intro q j hq hj; (simp only [up_at, upr_at]; repeat' split) <;> first | (exfalso; (first | omega | (simp only [Pm, Cm, Sm, Gm, iP, iR, iI, iC, iS, true_and, and_true] at *; omega))) | exact h.reg q j hq hj
  · intro c hc; refine ⟨(h.sil c hc).1, ?_⟩; (simp only [up_at, upr_at]; repeat' split) <;> first | (exfalso; (first | omega | (simp only [Pm, Cm, Sm, Gm, iP, iR, iI, iC, iS, true_and, and_true] at *; omega))) | exact (h.sil c hc).2
  · intro q hq; (simp only [up_at, upr_at]; repeat' split) <;> first | (exfalso; (first | omega | (simp only [Pm, Cm, Sm, Gm, iP, iR, iI, iC, iS, true_and, and_true] at *; omega))) | exact h.x0 q hq
  · intro q hq; rw [up_row (by (first | omega | (simp only [Pm, Cm, Sm, Gm, iP, iR, iI, iC, iS, true_and, and_true] at *; omega)))]; exact h.pol q hq
  · intro q hq; rw [up_row (by (first | omega | (simp only [Pm, Cm, Sm, Gm, iP, iR, iI, iC, iS, true_and, and_true] at *; omega)))]; exact h.rst q hq
theorem Re.upS {p k i : Nat} {v : Int32} (h : Re a0 b0 o a b) (hp : p < 4) (hk : Sm k i) : Re a0 b0 o (up a (iS p) k v) (up b i p v) := by
  have hic := Ic.upSL (q := p) (k := k) (v := v) h.ic
  refine ⟨?_, ?_, ?_, ?_, ?_, ?_, ?_, ?_, ?_, ?_, ?_, ?_, ?_, ?_, ?_, ?_⟩
  · intro j hj; rw [up_row (by (first | omega | (simp only [Pm, Cm, Sm, Gm, iP, iR, iI, iC, iS, true_and, and_true] at *; omega)))]; exact h.fa j hj
  · intro j hj; rw [up_row (by (first | omega | (simp only [Pm, Cm, Sm, Gm, iP, iR, iI, iC, iS, true_and, and_true] at *; omega)))]; exact h.fb j hj
  · exact hic
  · intro q k' i' hq hk'; (simp only [up_at, upr_at]; repeat' split) <;> first | (exfalso; (first | omega | (simp only [Pm, Cm, Sm, Gm, iP, iR, iI, iC, iS, true_and, and_true] at *; omega))) | exact h.pt q k' i' hq hk'
  · intro q k' i' hq hk'; (simp only [up_at, upr_at]; repeat' split) <;> first | (exfalso; (first | omega | (simp only [Pm, Cm, Sm, Gm, iP, iR, iI, iC, iS, true_and, and_true] at *; omega))) | exact h.ch q k' i' hq hk'
  · intro q k' i' hq hk'; (simp only [up_at, upr_at]; repeat' split) <;> first | rfl | (exfalso; (first | omega | (simp only [Pm, Cm, Sm, Gm, iP, iR, iI, iC, iS, true_and, and_true] at *; omega))) | exact h.sl q k' i' hq hk'
  · intro w hw; (simp only [up_at, upr_at]; repeat' split) <;> first | (exfalso; (first | omega | (simp only [Pm, Cm, Sm, Gm, iP, iR, iI, iC, iS, true_and, and_true] at *; omega))) | exact h.tp w hw
  · intro w hw; (simp only [up_at, upr_at]; repeat' split) <;> first | (exfalso; (first | omega | (simp only [Pm, Cm, Sm, Gm, iP, iR, iI, iC, iS, true_and, and_true] at *; omega))) | exact h.tl w hw
  · intro i' k' s' hg; (simp only [up_at, upr_at]; repeat' split) <;> first | (exfalso; (first | omega | (simp only [Pm, Cm, Sm, Gm, iP, iR, iI, iC, iS, true_and, and_true] at *; omega))) | exact h.sc i' k' s' hg
  · intro j hj; (simp only [up_at, upr_at]; repeat' split) <;> first | (exfalso; (first | omega | (simp only [Pm, Cm, Sm, Gm, iP, iR, iI, iC, iS, true_and, and_true] at *; omega))) | exact h.mem j hj
  · intro q j hq hj; (simp only [up_at, upr_at]; repeat' split) <;> first | (exfalso; (first | omega | (simp only [Pm, Cm, Sm, Gm, iP, iR, iI, iC, iS, true_and, and_true] at *; omega))) | exact h.img q j hq hj
  · intro q j hq hj; (simp only [up_at, upr_at]; repeat' split) <;> first | (exfalso; (first | omega | (simp only [Pm, Cm, Sm, Gm, iP, iR, iI, iC, iS, true_and, and_true] at *; omega))) | exact h.reg q j hq hj
  · intro c hc; refine ⟨(h.sil c hc).1, ?_⟩; (simp only [up_at, upr_at]; repeat' split) <;> first | (exfalso; (first | omega | (simp only [Pm, Cm, Sm, Gm, iP, iR, iI, iC, iS, true_and, and_true] at *; omega))) | exact (h.sil c hc).2
  · intro q hq; (simp only [up_at, upr_at]; repeat' split) <;> first | (exfalso; (first | omega | (simp only [Pm, Cm, Sm, Gm, iP, iR, iI, iC, iS, true_and, and_true] at *; omega))) | exact h.x0 q hq
  · intro q hq; rw [up_row (by (first | omega | (simp only [Pm, Cm, Sm, Gm, iP, iR, iI, iC, iS, true_and, and_true] at *; omega)))]; exact h.pol q hq
  · intro q hq; rw [up_row (by (first | omega | (simp only [Pm, Cm, Sm, Gm, iP, iR, iI, iC, iS, true_and, and_true] at *; omega)))]; exact h.rst q hq
theorem Re.upTP {w : Nat} {v : Int32} (h : Re a0 b0 o a b) (hw0 : w < 6) (hic : Ic (up a 7 w v)) : Re a0 b0 o (up a 7 w v) (up b 44 w v) := by
  refine ⟨?_, ?_, ?_, ?_, ?_, ?_, ?_, ?_, ?_, ?_, ?_, ?_, ?_, ?_, ?_, ?_⟩
  · intro j hj; rw [up_row (by (first | omega | (simp only [Pm, Cm, Sm, Gm, iP, iR, iI, iC, iS, true_and, and_true] at *; omega)))]; exact h.fa j hj
  · intro j hj; rw [up_row (by (first | omega | (simp only [Pm, Cm, Sm, Gm, iP, iR, iI, iC, iS, true_and, and_true] at *; omega)))]; exact h.fb j hj
  · exact hic
  · intro q k' i' hq hk'; (simp only [up_at, upr_at]; repeat' split) <;> first | (exfalso; (first | omega | (simp only [Pm, Cm, Sm, Gm, iP, iR, iI, iC, iS, true_and, and_true] at *; omega))) | exact h.pt q k' i' hq hk'
  · intro q k' i' hq hk'; (simp only [up_at, upr_at]; repeat' split) <;> first | (exfalso; (first | omega | (simp only [Pm, Cm, Sm, Gm, iP, iR, iI, iC, iS, true_and, and_true] at *; omega))) | exact h.ch q k' i' hq hk'
  · intro q k' i' hq hk'; (simp only [up_at, upr_at]; repeat' split) <;> first | (exfalso; (first | omega | (simp only [Pm, Cm, Sm, Gm, iP, iR, iI, iC, iS, true_and, and_true] at *; omega))) | exact h.sl q k' i' hq hk'
  · intro w' hw; (simp only [up_at, upr_at]; repeat' split) <;> first | rfl | (exfalso; (first | omega | (simp only [Pm, Cm, Sm, Gm, iP, iR, iI, iC, iS, true_and, and_true] at *; omega))) | exact h.tp w' hw
  · intro w hw; (simp only [up_at, upr_at]; repeat' split) <;> first | (exfalso; (first | omega | (simp only [Pm, Cm, Sm, Gm, iP, iR, iI, iC, iS, true_and, and_true] at *; omega))) | exact h.tl w hw
  · intro i' k' s' hg; (simp only [up_at, upr_at]; repeat' split) <;> first | (exfalso; (first | omega | (simp only [Pm, Cm, Sm, Gm, iP, iR, iI, iC, iS, true_and, and_true] at *; omega))) | exact h.sc i' k' s' hg
  · intro j hj; (simp only [up_at, upr_at]; repeat' split) <;> first | (exfalso; (first | omega | (simp only [Pm, Cm, Sm, Gm, iP, iR, iI, iC, iS, true_and, and_true] at *; omega))) | exact h.mem j hj
  · intro q j hq hj; (simp only [up_at, upr_at]; repeat' split) <;> first | (exfalso; (first | omega | (simp only [Pm, Cm, Sm, Gm, iP, iR, iI, iC, iS, true_and, and_true] at *; omega))) | exact h.img q j hq hj
  · intro q j hq hj; (simp only [up_at, upr_at]; repeat' split) <;> first | (exfalso; (first | omega | (simp only [Pm, Cm, Sm, Gm, iP, iR, iI, iC, iS, true_and, and_true] at *; omega))) | exact h.reg q j hq hj
  · intro c hc; refine ⟨(h.sil c hc).1, ?_⟩; (simp only [up_at, upr_at]; repeat' split) <;> first | (exfalso; (first | omega | (simp only [Pm, Cm, Sm, Gm, iP, iR, iI, iC, iS, true_and, and_true] at *; omega))) | exact (h.sil c hc).2
  · intro q hq; (simp only [up_at, upr_at]; repeat' split) <;> first | (exfalso; (first | omega | (simp only [Pm, Cm, Sm, Gm, iP, iR, iI, iC, iS, true_and, and_true] at *; omega))) | exact h.x0 q hq
  · intro q hq; rw [up_row (by (first | omega | (simp only [Pm, Cm, Sm, Gm, iP, iR, iI, iC, iS, true_and, and_true] at *; omega)))]; exact h.pol q hq
  · intro q hq; rw [up_row (by (first | omega | (simp only [Pm, Cm, Sm, Gm, iP, iR, iI, iC, iS, true_and, and_true] at *; omega)))]; exact h.rst q hq
theorem Re.upTL {w : Nat} {v : Int32} (h : Re a0 b0 o a b) (hw0 : w < 6) : Re a0 b0 o (up a 8 w v) (up b 45 w v) := by
  have hic := Ic.upTL (k := w) (v := v) h.ic
  refine ⟨?_, ?_, ?_, ?_, ?_, ?_, ?_, ?_, ?_, ?_, ?_, ?_, ?_, ?_, ?_, ?_⟩
  · intro j hj; rw [up_row (by (first | omega | (simp only [Pm, Cm, Sm, Gm, iP, iR, iI, iC, iS, true_and, and_true] at *; omega)))]; exact h.fa j hj
  · intro j hj; rw [up_row (by (first | omega | (simp only [Pm, Cm, Sm, Gm, iP, iR, iI, iC, iS, true_and, and_true] at *; omega)))]; exact h.fb j hj
  · exact hic
  · intro q k' i' hq hk'; (simp only [up_at, upr_at]; repeat' split) <;> first | (exfalso; (first | omega | (simp only [Pm, Cm, Sm, Gm, iP, iR, iI, iC, iS, true_and, and_true] at *; omega))) | exact h.pt q k' i' hq hk'
  · intro q k' i' hq hk'; (simp only [up_at, upr_at]; repeat' split) <;> first | (exfalso; (first | omega | (simp only [Pm, Cm, Sm, Gm, iP, iR, iI, iC, iS, true_and, and_true] at *; omega))) | exact h.ch q k' i' hq hk'
  · intro q k' i' hq hk'; (simp only [up_at, upr_at]; repeat' split) <;> first | (exfalso; (first | omega | (simp only [Pm, Cm, Sm, Gm, iP, iR, iI, iC, iS, true_and, and_true] at *; omega))) | exact h.sl q k' i' hq hk'
  · intro w hw; (simp only [up_at, upr_at]; repeat' split) <;> first | (exfalso; (first | omega | (simp only [Pm, Cm, Sm, Gm, iP, iR, iI, iC, iS, true_and, and_true] at *; omega))) | exact h.tp w hw
  · intro w' hw; (simp only [up_at, upr_at]; repeat' split) <;> first | rfl | (exfalso; (first | omega | (simp only [Pm, Cm, Sm, Gm, iP, iR, iI, iC, iS, true_and, and_true] at *; omega))) | exact h.tl w' hw
  · intro i' k' s' hg; (simp only [up_at, upr_at]; repeat' split) <;> first | (exfalso; (first | omega | (simp only [Pm, Cm, Sm, Gm, iP, iR, iI, iC, iS, true_and, and_true] at *; omega))) | exact h.sc i' k' s' hg
  · intro j hj; (simp only [up_at, upr_at]; repeat' split) <;> first | (exfalso; (first | omega | (simp only [Pm, Cm, Sm, Gm, iP, iR, iI, iC, iS, true_and, and_true] at *; omega))) | exact h.mem j hj
  · intro q j hq hj; (simp only [up_at, upr_at]; repeat' split) <;> first | (exfalso; (first | omega | (simp only [Pm, Cm, Sm, Gm, iP, iR, iI, iC, iS, true_and, and_true] at *; omega))) | exact h.img q j hq hj
  · intro q j hq hj; (simp only [up_at, upr_at]; repeat' split) <;> first | (exfalso; (first | omega | (simp only [Pm, Cm, Sm, Gm, iP, iR, iI, iC, iS, true_and, and_true] at *; omega))) | exact h.reg q j hq hj
  · intro c hc; refine ⟨(h.sil c hc).1, ?_⟩; (simp only [up_at, upr_at]; repeat' split) <;> first | (exfalso; (first | omega | (simp only [Pm, Cm, Sm, Gm, iP, iR, iI, iC, iS, true_and, and_true] at *; omega))) | exact (h.sil c hc).2
  · intro q hq; (simp only [up_at, upr_at]; repeat' split) <;> first | (exfalso; (first | omega | (simp only [Pm, Cm, Sm, Gm, iP, iR, iI, iC, iS, true_and, and_true] at *; omega))) | exact h.x0 q hq
  · intro q hq; rw [up_row (by (first | omega | (simp only [Pm, Cm, Sm, Gm, iP, iR, iI, iC, iS, true_and, and_true] at *; omega)))]; exact h.pol q hq
  · intro q hq; rw [up_row (by (first | omega | (simp only [Pm, Cm, Sm, Gm, iP, iR, iI, iC, iS, true_and, and_true] at *; omega)))]; exact h.rst q hq
theorem Re.upG {i k s : Nat} {v : Int32} (h : Re a0 b0 o a b) (hk : Gm i k s) (hic : Ic (up a i k v)) : Re a0 b0 o (up a i k v) (up b 29 s v) := by
  refine ⟨?_, ?_, ?_, ?_, ?_, ?_, ?_, ?_, ?_, ?_, ?_, ?_, ?_, ?_, ?_, ?_⟩
  · intro j hj; rw [up_row (by (first | omega | (simp only [Pm, Cm, Sm, Gm, iP, iR, iI, iC, iS, true_and, and_true] at *; omega)))]; exact h.fa j hj
  · intro j hj; rw [up_row (by (first | omega | (simp only [Pm, Cm, Sm, Gm, iP, iR, iI, iC, iS, true_and, and_true] at *; omega)))]; exact h.fb j hj
  · exact hic
  · intro q k' i' hq hk'; (simp only [up_at, upr_at]; repeat' split) <;> first | (exfalso; (first | omega | (simp only [Pm, Cm, Sm, Gm, iP, iR, iI, iC, iS, true_and, and_true] at *; omega))) | exact h.pt q k' i' hq hk'
  · intro q k' i' hq hk'; (simp only [up_at, upr_at]; repeat' split) <;> first | (exfalso; (first | omega | (simp only [Pm, Cm, Sm, Gm, iP, iR, iI, iC, iS, true_and, and_true] at *; omega))) | exact h.ch q k' i' hq hk'
  · intro q k' i' hq hk'; (simp only [up_at, upr_at]; repeat' split) <;> first | (exfalso; (first | omega | (simp only [Pm, Cm, Sm, Gm, iP, iR, iI, iC, iS, true_and, and_true] at *; omega))) | exact h.sl q k' i' hq hk'
  · intro w hw; (simp only [up_at, upr_at]; repeat' split) <;> first | (exfalso; (first | omega | (simp only [Pm, Cm, Sm, Gm, iP, iR, iI, iC, iS, true_and, and_true] at *; omega))) | exact h.tp w hw
  · intro w hw; (simp only [up_at, upr_at]; repeat' split) <;> first | (exfalso; (first | omega | (simp only [Pm, Cm, Sm, Gm, iP, iR, iI, iC, iS, true_and, and_true] at *; omega))) | exact h.tl w hw
  · intro i' k' s' hg; (simp only [up_at, upr_at]; repeat' split) <;> first | rfl | (exfalso; (first | omega | (simp only [Pm, Cm, Sm, Gm, iP, iR, iI, iC, iS, true_and, and_true] at *; omega))) | exact h.sc i' k' s' hg
  · intro j hj; (simp only [up_at, upr_at]; repeat' split) <;> first | (exfalso; (first | omega | (simp only [Pm, Cm, Sm, Gm, iP, iR, iI, iC, iS, true_and, and_true] at *; omega))) | exact h.mem j hj
  · intro q j hq hj; (simp only [up_at, upr_at]; repeat' split) <;> first | (exfalso; (first | omega | (simp only [Pm, Cm, Sm, Gm, iP, iR, iI, iC, iS, true_and, and_true] at *; omega))) | exact h.img q j hq hj
  · intro q j hq hj; (simp only [up_at, upr_at]; repeat' split) <;> first | (exfalso; (first | omega | (simp only [Pm, Cm, Sm, Gm, iP, iR, iI, iC, iS, true_and, and_true] at *; omega))) | exact h.reg q j hq hj
  · intro c hc; refine ⟨(h.sil c hc).1, ?_⟩; (simp only [up_at, upr_at]; repeat' split) <;> first | (exfalso; (first | omega | (simp only [Pm, Cm, Sm, Gm, iP, iR, iI, iC, iS, true_and, and_true] at *; omega))) | exact (h.sil c hc).2
  · intro q hq; (simp only [up_at, upr_at]; repeat' split) <;> first | (exfalso; (first | omega | (simp only [Pm, Cm, Sm, Gm, iP, iR, iI, iC, iS, true_and, and_true] at *; omega))) | exact h.x0 q hq
  · intro q hq; rw [up_row (by (first | omega | (simp only [Pm, Cm, Sm, Gm, iP, iR, iI, iC, iS, true_and, and_true] at *; omega)))]; exact h.pol q hq
  · intro q hq; rw [up_row (by (first | omega | (simp only [Pm, Cm, Sm, Gm, iP, iR, iI, iC, iS, true_and, and_true] at *; omega)))]; exact h.rst q hq
theorem Re.upMem {j0 : Nat} {v : Int32} (h : Re a0 b0 o a b) (hj0 : j0 < 96) : Re a0 b0 o (up a 2 j0 v) (up b 30 j0 v) := by
  have hic := Ic.upWO (k := j0) (v := v) h.ic
  refine ⟨?_, ?_, ?_, ?_, ?_, ?_, ?_, ?_, ?_, ?_, ?_, ?_, ?_, ?_, ?_, ?_⟩
  · intro j hj; rw [up_row (by (first | omega | (simp only [Pm, Cm, Sm, Gm, iP, iR, iI, iC, iS, true_and, and_true] at *; omega)))]; exact h.fa j hj
  · intro j hj; rw [up_row (by (first | omega | (simp only [Pm, Cm, Sm, Gm, iP, iR, iI, iC, iS, true_and, and_true] at *; omega)))]; exact h.fb j hj
  · exact hic
  · intro q k' i' hq hk'; (simp only [up_at, upr_at]; repeat' split) <;> first | (exfalso; (first | omega | (simp only [Pm, Cm, Sm, Gm, iP, iR, iI, iC, iS, true_and, and_true] at *; omega))) | exact h.pt q k' i' hq hk'
  · intro q k' i' hq hk'; (simp only [up_at, upr_at]; repeat' split) <;> first | (exfalso; (first | omega | (simp only [Pm, Cm, Sm, Gm, iP, iR, iI, iC, iS, true_and, and_true] at *; omega))) | exact h.ch q k' i' hq hk'
  · intro q k' i' hq hk'; (simp only [up_at, upr_at]; repeat' split) <;> first | (exfalso; (first | omega | (simp only [Pm, Cm, Sm, Gm, iP, iR, iI, iC, iS, true_and, and_true] at *; omega))) | exact h.sl q k' i' hq hk'
  · intro w hw; (simp only [up_at, upr_at]; repeat' split) <;> first | (exfalso; (first | omega | (simp only [Pm, Cm, Sm, Gm, iP, iR, iI, iC, iS, true_and, and_true] at *; omega))) | exact h.tp w hw
  · intro w hw; (simp only [up_at, upr_at]; repeat' split) <;> first | (exfalso; (first | omega | (simp only [Pm, Cm, Sm, Gm, iP, iR, iI, iC, iS, true_and, and_true] at *; omega))) | exact h.tl w hw
  · intro i' k' s' hg; (simp only [up_at, upr_at]; repeat' split) <;> first | (exfalso; (first | omega | (simp only [Pm, Cm, Sm, Gm, iP, iR, iI, iC, iS, true_and, and_true] at *; omega))) | exact h.sc i' k' s' hg
  · intro j hj; (simp only [up_at, upr_at]; repeat' split) <;> first | rfl | (exfalso; (first | omega | (simp only [Pm, Cm, Sm, Gm, iP, iR, iI, iC, iS, true_and, and_true] at *; omega))) | exact h.mem j hj
  · intro q j hq hj; (simp only [up_at, upr_at]; repeat' split) <;> first | (exfalso; (first | omega | (simp only [Pm, Cm, Sm, Gm, iP, iR, iI, iC, iS, true_and, and_true] at *; omega))) | exact h.img q j hq hj
  · intro q j hq hj; (simp only [up_at, upr_at]; repeat' split) <;> first | (exfalso; (first | omega | (simp only [Pm, Cm, Sm, Gm, iP, iR, iI, iC, iS, true_and, and_true] at *; omega))) | exact h.reg q j hq hj
  · intro c hc; refine ⟨(h.sil c hc).1, ?_⟩; (simp only [up_at, upr_at]; repeat' split) <;> first | (exfalso; (first | omega | (simp only [Pm, Cm, Sm, Gm, iP, iR, iI, iC, iS, true_and, and_true] at *; omega))) | exact (h.sil c hc).2
  · intro q hq; (simp only [up_at, upr_at]; repeat' split) <;> first | (exfalso; (first | omega | (simp only [Pm, Cm, Sm, Gm, iP, iR, iI, iC, iS, true_and, and_true] at *; omega))) | exact h.x0 q hq
  · intro q hq; rw [up_row (by (first | omega | (simp only [Pm, Cm, Sm, Gm, iP, iR, iI, iC, iS, true_and, and_true] at *; omega)))]; exact h.pol q hq
  · intro q hq; rw [up_row (by (first | omega | (simp only [Pm, Cm, Sm, Gm, iP, iR, iI, iC, iS, true_and, and_true] at *; omega)))]; exact h.rst q hq
theorem Re.upR {p r : Nat} {v : Int32} (h : Re a0 b0 o a b) (hp : p < 4) (hr : r < 16) (hv : r ≠ 0 ∨ v = 0) : Re a0 b0 o (up a (iR p) r v) (up b 32 (16 * p + r) v) := by
  have hic := Ic.upRG (q := p) (k := r) (v := v) h.ic
  refine ⟨?_, ?_, ?_, ?_, ?_, ?_, ?_, ?_, ?_, ?_, ?_, ?_, ?_, ?_, ?_, ?_⟩
  · intro j hj; rw [up_row (by (first | omega | (simp only [Pm, Cm, Sm, Gm, iP, iR, iI, iC, iS, true_and, and_true] at *; omega)))]; exact h.fa j hj
  · intro j hj; rw [up_row (by (first | omega | (simp only [Pm, Cm, Sm, Gm, iP, iR, iI, iC, iS, true_and, and_true] at *; omega)))]; exact h.fb j hj
  · exact hic
  · intro q k' i' hq hk'; (simp only [up_at, upr_at]; repeat' split) <;> first | (exfalso; (first | omega | (simp only [Pm, Cm, Sm, Gm, iP, iR, iI, iC, iS, true_and, and_true] at *; omega))) | exact h.pt q k' i' hq hk'
  · intro q k' i' hq hk'; (simp only [up_at, upr_at]; repeat' split) <;> first | (exfalso; (first | omega | (simp only [Pm, Cm, Sm, Gm, iP, iR, iI, iC, iS, true_and, and_true] at *; omega))) | exact h.ch q k' i' hq hk'
  · intro q k' i' hq hk'; (simp only [up_at, upr_at]; repeat' split) <;> first | (exfalso; (first | omega | (simp only [Pm, Cm, Sm, Gm, iP, iR, iI, iC, iS, true_and, and_true] at *; omega))) | exact h.sl q k' i' hq hk'
  · intro w hw; (simp only [up_at, upr_at]; repeat' split) <;> first | (exfalso; (first | omega | (simp only [Pm, Cm, Sm, Gm, iP, iR, iI, iC, iS, true_and, and_true] at *; omega))) | exact h.tp w hw
  · intro w hw; (simp only [up_at, upr_at]; repeat' split) <;> first | (exfalso; (first | omega | (simp only [Pm, Cm, Sm, Gm, iP, iR, iI, iC, iS, true_and, and_true] at *; omega))) | exact h.tl w hw
  · intro i' k' s' hg; (simp only [up_at, upr_at]; repeat' split) <;> first | (exfalso; (first | omega | (simp only [Pm, Cm, Sm, Gm, iP, iR, iI, iC, iS, true_and, and_true] at *; omega))) | exact h.sc i' k' s' hg
  · intro j hj; (simp only [up_at, upr_at]; repeat' split) <;> first | (exfalso; (first | omega | (simp only [Pm, Cm, Sm, Gm, iP, iR, iI, iC, iS, true_and, and_true] at *; omega))) | exact h.mem j hj
  · intro q j hq hj; (simp only [up_at, upr_at]; repeat' split) <;> first | (exfalso; (first | omega | (simp only [Pm, Cm, Sm, Gm, iP, iR, iI, iC, iS, true_and, and_true] at *; omega))) | exact h.img q j hq hj
  · intro q j hq hj; (simp only [up_at, upr_at]; repeat' split) <;> first | rfl | (exfalso; (first | omega | (simp only [Pm, Cm, Sm, Gm, iP, iR, iI, iC, iS, true_and, and_true] at *; omega))) | exact h.reg q j hq hj
  · intro c hc; refine ⟨(h.sil c hc).1, ?_⟩; (simp only [up_at, upr_at]; repeat' split) <;> first | (exfalso; (first | omega | (simp only [Pm, Cm, Sm, Gm, iP, iR, iI, iC, iS, true_and, and_true] at *; omega))) | exact (h.sil c hc).2
  · intro q hq; simp only [up_at]; split
    · rcases hv with hv | hv
      · exfalso; (first | omega | (simp only [Pm, Cm, Sm, Gm, iP, iR, iI, iC, iS, true_and, and_true] at *; omega))
      · exact hv
    · exact h.x0 q hq
  · intro q hq; rw [up_row (by (first | omega | (simp only [Pm, Cm, Sm, Gm, iP, iR, iI, iC, iS, true_and, and_true] at *; omega)))]; exact h.pol q hq
  · intro q hq; rw [up_row (by (first | omega | (simp only [Pm, Cm, Sm, Gm, iP, iR, iI, iC, iS, true_and, and_true] at *; omega)))]; exact h.rst q hq
theorem Re.setMem {f g : Nat → Int32} (h : Re a0 b0 o a b) (hfg : ∀ j, j < 96 → g j = f j) : Re a0 b0 o (upr a 2 f) (upr b 30 g) := by
  have hic := Ic.uprWO (f := f) h.ic
  refine ⟨?_, ?_, ?_, ?_, ?_, ?_, ?_, ?_, ?_, ?_, ?_, ?_, ?_, ?_, ?_, ?_⟩
  · intro j hj; rw [upr_row (by (first | omega | (simp only [Pm, Cm, Sm, Gm, iP, iR, iI, iC, iS, true_and, and_true] at *; omega)))]; exact h.fa j hj
  · intro j hj; rw [upr_row (by (first | omega | (simp only [Pm, Cm, Sm, Gm, iP, iR, iI, iC, iS, true_and, and_true] at *; omega)))]; exact h.fb j hj
  · exact hic
  · intro q k' i' hq hk'; (simp only [up_at, upr_at]; repeat' split) <;> first | (exfalso; (first | omega | (simp only [Pm, Cm, Sm, Gm, iP, iR, iI, iC, iS, true_and, and_true] at *; omega))) | exact h.pt q k' i' hq hk'
  · intro q k' i' hq hk'; (simp only [up_at, upr_at]; repeat' split) <;> first | (exfalso; (first | omega | (simp only [Pm, Cm, Sm, Gm, iP, iR, iI, iC, iS, true_and, and_true] at *; omega))) | exact h.ch q k' i' hq hk'
  · intro q k' i' hq hk'; (simp only [up_at, upr_at]; repeat' split) <;> first | (exfalso; (first | omega | (simp only [Pm, Cm, Sm, Gm, iP, iR, iI, iC, iS, true_and, and_true] at *; omega))) | exact h.sl q k' i' hq hk'
  · intro w hw; (simp only [up_at, upr_at]; repeat' split) <;> first | (exfalso; (first | omega | (simp only [Pm, Cm, Sm, Gm, iP, iR, iI, iC, iS, true_and, and_true] at *; omega))) | exact h.tp w hw
  · intro w hw; (simp only [up_at, upr_at]; repeat' split) <;> first | (exfalso; (first | omega | (simp only [Pm, Cm, Sm, Gm, iP, iR, iI, iC, iS, true_and, and_true] at *; omega))) | exact h.tl w hw
  · intro i' k' s' hg; (simp only [up_at, upr_at]; repeat' split) <;> first | (exfalso; (first | omega | (simp only [Pm, Cm, Sm, Gm, iP, iR, iI, iC, iS, true_and, and_true] at *; omega))) | exact h.sc i' k' s' hg
  · intro j hj; (simp only [up_at, upr_at]; repeat' split) <;> first | exact hfg j hj | (exfalso; (first | omega | (simp only [Pm, Cm, Sm, Gm, iP, iR, iI, iC, iS, true_and, and_true] at *; omega))) | exact h.mem j hj
  · intro q j hq hj; (simp only [up_at, upr_at]; repeat' split) <;> first | (exfalso; (first | omega | (simp only [Pm, Cm, Sm, Gm, iP, iR, iI, iC, iS, true_and, and_true] at *; omega))) | exact h.img q j hq hj
  · intro q j hq hj; (simp only [up_at, upr_at]; repeat' split) <;> first | (exfalso; (first | omega | (simp only [Pm, Cm, Sm, Gm, iP, iR, iI, iC, iS, true_and, and_true] at *; omega))) | exact h.reg q j hq hj
  · intro c hc; refine ⟨(h.sil c hc).1, ?_⟩; (simp only [up_at, upr_at]; repeat' split) <;> first | (exfalso; (first | omega | (simp only [Pm, Cm, Sm, Gm, iP, iR, iI, iC, iS, true_and, and_true] at *; omega))) | exact (h.sil c hc).2
  · intro q hq; (simp only [up_at, upr_at]; repeat' split) <;> first | (exfalso; (first | omega | (simp only [Pm, Cm, Sm, Gm, iP, iR, iI, iC, iS, true_and, and_true] at *; omega))) | exact h.x0 q hq
  · intro q hq; rw [upr_row (by (first | omega | (simp only [Pm, Cm, Sm, Gm, iP, iR, iI, iC, iS, true_and, and_true] at *; omega)))]; exact h.pol q hq
  · intro q hq; rw [upr_row (by (first | omega | (simp only [Pm, Cm, Sm, Gm, iP, iR, iI, iC, iS, true_and, and_true] at *; omega)))]; exact h.rst q hq
theorem Re.setImg {p : Nat} {f g : Nat → Int32} (h : Re a0 b0 o a b) (hp : p < 4) (hfg : ∀ j, j < 32 → g (32 * p + j) = f j) (hg2 : ∀ q j, q < 4 → q ≠ p → j < 32 → g (32 * q + j) = b 31 (32 * q + j)) : Re a0 b0 o (upr a (iI p) f) (upr b 31 g) := by
  have hic := Ic.uprIM (q := p) (f := f) h.ic
  refine ⟨?_, ?_, ?_, ?_, ?_, ?_, ?_, ?_, ?_, ?_, ?_, ?_, ?_, ?_, ?_, ?_⟩
  · intro j hj; rw [upr_row (by (first | omega | (simp only [Pm, Cm, Sm, Gm, iP, iR, iI, iC, iS, true_and, and_true] at *; omega)))]; exact h.fa j hj
  · intro j hj; rw [upr_row (by (first | omega | (simp only [Pm, Cm, Sm, Gm, iP, iR, iI, iC, iS, true_and, and_true] at *; omega)))]; exact h.fb j hj
  · exact hic
  · intro q k' i' hq hk'; (simp only [up_at, upr_at]; repeat' split) <;> first | (exfalso; (first | omega | (simp only [Pm, Cm, Sm, Gm, iP, iR, iI, iC, iS, true_and, and_true] at *; omega))) | exact h.pt q k' i' hq hk'
  · intro q k' i' hq hk'; (simp only [up_at, upr_at]; repeat' split) <;> first | (exfalso; (first | omega | (simp only [Pm, Cm, Sm, Gm, iP, iR, iI, iC, iS, true_and, and_true] at *; omega))) | exact h.ch q k' i' hq hk'
  · intro q k' i' hq hk'; (simp only [up_at, upr_at]; repeat' split) <;> first | (exfalso; (first | omega | (simp only [Pm, Cm, Sm, Gm, iP, iR, iI, iC, iS, true_and, and_true] at *; omega))) | exact h.sl q k' i' hq hk'
  · intro w hw; (simp only [up_at, upr_at]; repeat' split) <;> first | (exfalso; (first | omega | (simp only [Pm, Cm, Sm, Gm, iP, iR, iI, iC, iS, true_and, and_true] at *; omega))) | exact h.tp w hw
  · intro w hw; (simp only [up_at, upr_at]; repeat' split) <;> first | (exfalso; (first | omega | (simp only [Pm, Cm, Sm, Gm, iP, iR, iI, iC, iS, true_and, and_true] at *; omega))) | exact h.tl w hw
  · intro i' k' s' hg; (simp only [up_at, upr_at]; repeat' split) <;> first | (exfalso; (first | omega | (simp only [Pm, Cm, Sm, Gm, iP, iR, iI, iC, iS, true_and, and_true] at *; omega))) | exact h.sc i' k' s' hg
  · intro j hj; (simp only [up_at, upr_at]; repeat' split) <;> first | (exfalso; (first | omega | (simp only [Pm, Cm, Sm, Gm, iP, iR, iI, iC, iS, true_and, and_true] at *; omega))) | exact h.mem j hj
  · intro q j hq hj; by_cases hqp : q = p
    · subst hqp; rw [upr_at, upr_at, if_pos rfl, if_pos rfl]; exact hfg j hj
    · rw [upr_at, upr_at, if_pos rfl, if_neg (by (first | omega | (simp only [Pm, Cm, Sm, Gm, iP, iR, iI, iC, iS, true_and, and_true] at *; omega))), hg2 q j hq hqp hj]; exact h.img q j hq hj
  · intro q j hq hj; (simp only [up_at, upr_at]; repeat' split) <;> first | (exfalso; (first | omega | (simp only [Pm, Cm, Sm, Gm, iP, iR, iI, iC, iS, true_and, and_true] at *; omega))) | exact h.reg q j hq hj
  · intro c hc; refine ⟨(h.sil c hc).1, ?_⟩; (simp only [up_at, upr_at]; repeat' split) <;> first | (exfalso; (first | omega | (simp only [Pm, Cm, Sm, Gm, iP, iR, iI, iC, iS, true_and, and_true] at *; omega))) | exact (h.sil c hc).2
  · intro q hq; (simp only [up_at, upr_at]; repeat' split) <;> first | (exfalso; (first | omega | (simp only [Pm, Cm, Sm, Gm, iP, iR, iI, iC, iS, true_and, and_true] at *; omega))) | exact h.x0 q hq
  · intro q hq; rw [upr_row (by (first | omega | (simp only [Pm, Cm, Sm, Gm, iP, iR, iI, iC, iS, true_and, and_true] at *; omega)))]; exact h.pol q hq
  · intro q hq; rw [upr_row (by (first | omega | (simp only [Pm, Cm, Sm, Gm, iP, iR, iI, iC, iS, true_and, and_true] at *; omega)))]; exact h.rst q hq
theorem Re.upSil {c : Nat} {v : Int32} (h : Re a0 b0 (some c) a b) (hc4 : c < 4) : Re a0 b0 (some c) (up a (iP c) 7 v) (up b 29 25 v) := by
  have hic := Ic.upPT (q := c) (v := v) h.ic (show 2 < 7 by decide)
  refine ⟨?_, ?_, ?_, ?_, ?_, ?_, ?_, ?_, ?_, ?_, ?_, ?_, ?_, ?_, ?_, ?_⟩
  · intro j hj; rw [up_row (by (first | omega | (simp only [Pm, Cm, Sm, Gm, iP, iR, iI, iC, iS, true_and, and_true] at *; omega)))]; exact h.fa j hj
  · intro j hj; rw [up_row (by (first | omega | (simp only [Pm, Cm, Sm, Gm, iP, iR, iI, iC, iS, true_and, and_true] at *; omega)))]; exact h.fb j hj
  · exact hic
  · intro q k' i' hq hk'; (simp only [up_at, upr_at]; repeat' split) <;> first | (exfalso; (first | omega | (simp only [Pm, Cm, Sm, Gm, iP, iR, iI, iC, iS, true_and, and_true] at *; omega))) | exact h.pt q k' i' hq hk'
  · intro q k' i' hq hk'; (simp only [up_at, upr_at]; repeat' split) <;> first | (exfalso; (first | omega | (simp only [Pm, Cm, Sm, Gm, iP, iR, iI, iC, iS, true_and, and_true] at *; omega))) | exact h.ch q k' i' hq hk'
  · intro q k' i' hq hk'; (simp only [up_at, upr_at]; repeat' split) <;> first | (exfalso; (first | omega | (simp only [Pm, Cm, Sm, Gm, iP, iR, iI, iC, iS, true_and, and_true] at *; omega))) | exact h.sl q k' i' hq hk'
  · intro w hw; (simp only [up_at, upr_at]; repeat' split) <;> first | (exfalso; (first | omega | (simp only [Pm, Cm, Sm, Gm, iP, iR, iI, iC, iS, true_and, and_true] at *; omega))) | exact h.tp w hw
  · intro w hw; (simp only [up_at, upr_at]; repeat' split) <;> first | (exfalso; (first | omega | (simp only [Pm, Cm, Sm, Gm, iP, iR, iI, iC, iS, true_and, and_true] at *; omega))) | exact h.tl w hw
  · intro i' k' s' hg; (simp only [up_at, upr_at]; repeat' split) <;> first | (exfalso; (first | omega | (simp only [Pm, Cm, Sm, Gm, iP, iR, iI, iC, iS, true_and, and_true] at *; omega))) | exact h.sc i' k' s' hg
  · intro j hj; (simp only [up_at, upr_at]; repeat' split) <;> first | (exfalso; (first | omega | (simp only [Pm, Cm, Sm, Gm, iP, iR, iI, iC, iS, true_and, and_true] at *; omega))) | exact h.mem j hj
  · intro q j hq hj; (simp only [up_at, upr_at]; repeat' split) <;> first | (exfalso; (first | omega | (simp only [Pm, Cm, Sm, Gm, iP, iR, iI, iC, iS, true_and, and_true] at *; omega))) | exact h.img q j hq hj
  · intro q j hq hj; (simp only [up_at, upr_at]; repeat' split) <;> first | (exfalso; (first | omega | (simp only [Pm, Cm, Sm, Gm, iP, iR, iI, iC, iS, true_and, and_true] at *; omega))) | exact h.reg q j hq hj
  · intro c' hc; refine ⟨(h.sil c' hc).1, ?_⟩; cases hc; rw [up_at, up_at, if_pos ⟨rfl, rfl⟩, if_pos ⟨rfl, rfl⟩]
  · intro q hq; (simp only [up_at, upr_at]; repeat' split) <;> first | (exfalso; (first | omega | (simp only [Pm, Cm, Sm, Gm, iP, iR, iI, iC, iS, true_and, and_true] at *; omega))) | exact h.x0 q hq
  · intro q hq; rw [up_row (by (first | omega | (simp only [Pm, Cm, Sm, Gm, iP, iR, iI, iC, iS, true_and, and_true] at *; omega)))]; exact h.pol q hq
  · intro q hq; rw [up_row (by (first | omega | (simp only [Pm, Cm, Sm, Gm, iP, iR, iI, iC, iS, true_and, and_true] at *; omega)))]; exact h.rst q hq
theorem Re.upNext {v : Int32} (h : Re a0 b0 o a b) : Re a0 b0 o (up a 1 6 v) b := by
  have hic := Ic.upMA (k := 6) (v := v) h.ic
  refine ⟨?_, ?_, ?_, ?_, ?_, ?_, ?_, ?_, ?_, ?_, ?_, ?_, ?_, ?_, ?_, ?_⟩
  · intro j hj; rw [up_row (by (first | omega | (simp only [Pm, Cm, Sm, Gm, iP, iR, iI, iC, iS, true_and, and_true] at *; omega)))]; exact h.fa j hj
  · exact h.fb
  · exact hic
  · intro q k' i' hq hk'; (simp only [up_at, upr_at]; repeat' split) <;> first | (exfalso; (first | omega | (simp only [Pm, Cm, Sm, Gm, iP, iR, iI, iC, iS, true_and, and_true] at *; omega))) | exact h.pt q k' i' hq hk'
  · intro q k' i' hq hk'; (simp only [up_at, upr_at]; repeat' split) <;> first | (exfalso; (first | omega | (simp only [Pm, Cm, Sm, Gm, iP, iR, iI, iC, iS, true_and, and_true] at *; omega))) | exact h.ch q k' i' hq hk'
  · intro q k' i' hq hk'; (simp only [up_at, upr_at]; repeat' split) <;> first | (exfalso; (first | omega | (simp only [Pm, Cm, Sm, Gm, iP, iR, iI, iC, iS, true_and, and_true] at *; omega))) | exact h.sl q k' i' hq hk'
  · intro w hw; (simp only [up_at, upr_at]; repeat' split) <;> first | (exfalso; (first | omega | (simp only [Pm, Cm, Sm, Gm, iP, iR, iI, iC, iS, true_and, and_true] at *; omega))) | exact h.tp w hw
  · intro w hw; (simp only [up_at, upr_at]; repeat' split) <;> first | (exfalso; (first | omega | (simp only [Pm, Cm, Sm, Gm, iP, iR, iI, iC, iS, true_and, and_true] at *; omega))) | exact h.tl w hw
  · intro i' k' s' hg; (simp only [up_at, upr_at]; repeat' split) <;> first | (exfalso; (first | omega | (simp only [Pm, Cm, Sm, Gm, iP, iR, iI, iC, iS, true_and, and_true] at *; omega))) | exact h.sc i' k' s' hg
  · intro j hj; (simp only [up_at, upr_at]; repeat' split) <;> first | (exfalso; (first | omega | (simp only [Pm, Cm, Sm, Gm, iP, iR, iI, iC, iS, true_and, and_true] at *; omega))) | exact h.mem j hj
  · intro q j hq hj; (simp only [up_at, upr_at]; repeat' split) <;> first | (exfalso; (first | omega | (simp only [Pm, Cm, Sm, Gm, iP, iR, iI, iC, iS, true_and, and_true] at *; omega))) | exact h.img q j hq hj
  · intro q j hq hj; (simp only [up_at, upr_at]; repeat' split) <;> first | (exfalso; (first | omega | (simp only [Pm, Cm, Sm, Gm, iP, iR, iI, iC, iS, true_and, and_true] at *; omega))) | exact h.reg q j hq hj
  · intro c hc; refine ⟨(h.sil c hc).1, ?_⟩; (simp only [up_at, upr_at]; repeat' split) <;> first | (exfalso; (first | omega | (simp only [Pm, Cm, Sm, Gm, iP, iR, iI, iC, iS, true_and, and_true] at *; omega))) | exact (h.sil c hc).2
  · intro q hq; (simp only [up_at, upr_at]; repeat' split) <;> first | (exfalso; (first | omega | (simp only [Pm, Cm, Sm, Gm, iP, iR, iI, iC, iS, true_and, and_true] at *; omega))) | exact h.x0 q hq
  · exact h.pol
  · exact h.rst
theorem Re.upRestA {p : Nat} {v : Int32} (h : Re a0 b0 none a b) (hp : p < 4) : Re a0 b0 none (up a (iP p) 7 v) b := by
  have hic := Ic.upPT (q := p) (v := v) h.ic (show 2 < 7 by decide)
  refine ⟨?_, ?_, ?_, ?_, ?_, ?_, ?_, ?_, ?_, ?_, ?_, ?_, ?_, ?_, ?_, ?_⟩
  · intro j hj; rw [up_row (by (first | omega | (simp only [Pm, Cm, Sm, Gm, iP, iR, iI, iC, iS, true_and, and_true] at *; omega)))]; exact h.fa j hj
  · exact h.fb
  · exact hic
  · intro q k' i' hq hk'; (simp only [up_at, upr_at]; repeat' split) <;> first | (exfalso; (first | omega | (simp only [Pm, Cm, Sm, Gm, iP, iR, iI, iC, iS, true_and, and_true] at *; omega))) | exact h.pt q k' i' hq hk'
  · intro q k' i' hq hk'; (simp only [up_at, upr_at]; repeat' split) <;> first | (exfalso; (first | omega | (simp only [Pm, Cm, Sm, Gm, iP, iR, iI, iC, iS, true_and, and_true] at *; omega))) | exact h.ch q k' i' hq hk'
  · intro q k' i' hq hk'; (simp only [up_at, upr_at]; repeat' split) <;> first | (exfalso; (first | omega | (simp only [Pm, Cm, Sm, Gm, iP, iR, iI, iC, iS, true_and, and_true] at *; omega))) | exact h.sl q k' i' hq hk'
  · intro w hw; (simp only [up_at, upr_at]; repeat' split) <;> first | (exfalso; (first | omega | (simp only [Pm, Cm, Sm, Gm, iP, iR, iI, iC, iS, true_and, and_true] at *; omega))) | exact h.tp w hw
  · intro w hw; (simp only [up_at, upr_at]; repeat' split) <;> first | (exfalso; (first | omega | (simp only [Pm, Cm, Sm, Gm, iP, iR, iI, iC, iS, true_and, and_true] at *; omega))) | exact h.tl w hw
  · intro i' k' s' hg; (simp only [up_at, upr_at]; repeat' split) <;> first | (exfalso; (first | omega | (simp only [Pm, Cm, Sm, Gm, iP, iR, iI, iC, iS, true_and, and_true] at *; omega))) | exact h.sc i' k' s' hg
  · intro j hj; (simp only [up_at, upr_at]; repeat' split) <;> first | (exfalso; (first | omega | (simp only [Pm, Cm, Sm, Gm, iP, iR, iI, iC, iS, true_and, and_true] at *; omega))) | exact h.mem j hj
  · intro q j hq hj; (simp only [up_at, upr_at]; repeat' split) <;> first | (exfalso; (first | omega | (simp only [Pm, Cm, Sm, Gm, iP, iR, iI, iC, iS, true_and, and_true] at *; omega))) | exact h.img q j hq hj
  · intro q j hq hj; (simp only [up_at, upr_at]; repeat' split) <;> first | (exfalso; (first | omega | (simp only [Pm, Cm, Sm, Gm, iP, iR, iI, iC, iS, true_and, and_true] at *; omega))) | exact h.reg q j hq hj
  · intro c hc; cases hc
  · intro q hq; (simp only [up_at, upr_at]; repeat' split) <;> first | (exfalso; (first | omega | (simp only [Pm, Cm, Sm, Gm, iP, iR, iI, iC, iS, true_and, and_true] at *; omega))) | exact h.x0 q hq
  · exact h.pol
  · exact h.rst
theorem Re.upThr {v : Int32} (h : Re a0 b0 o a b) : Re a0 b0 o a (up b 29 33 v) := by
  have hic := h.ic
  refine ⟨?_, ?_, ?_, ?_, ?_, ?_, ?_, ?_, ?_, ?_, ?_, ?_, ?_, ?_, ?_, ?_⟩
  · exact h.fa
  · intro j hj; rw [up_row (by (first | omega | (simp only [Pm, Cm, Sm, Gm, iP, iR, iI, iC, iS, true_and, and_true] at *; omega)))]; exact h.fb j hj
  · exact hic
  · intro q k' i' hq hk'; (simp only [up_at, upr_at]; repeat' split) <;> first | (exfalso; (first | omega | (simp only [Pm, Cm, Sm, Gm, iP, iR, iI, iC, iS, true_and, and_true] at *; omega))) | exact h.pt q k' i' hq hk'
  · intro q k' i' hq hk'; (simp only [up_at, upr_at]; repeat' split) <;> first | (exfalso; (first | omega | (simp only [Pm, Cm, Sm, Gm, iP, iR, iI, iC, iS, true_and, and_true] at *; omega))) | exact h.ch q k' i' hq hk'
  · intro q k' i' hq hk'; (simp only [up_at, upr_at]; repeat' split) <;> first | (exfalso; (first | omega | (simp only [Pm, Cm, Sm, Gm, iP, iR, iI, iC, iS, true_and, and_true] at *; omega))) | exact h.sl q k' i' hq hk'
  · intro w hw; (simp only [up_at, upr_at]; repeat' split) <;> first | (exfalso; (first | omega | (simp only [Pm, Cm, Sm, Gm, iP, iR, iI, iC, iS, true_and, and_true] at *; omega))) | exact h.tp w hw
  · intro w hw; (simp only [up_at, upr_at]; repeat' split) <;> first | (exfalso; (first | omega | (simp only [Pm, Cm, Sm, Gm, iP, iR, iI, iC, iS, true_and, and_true] at *; omega))) | exact h.tl w hw
  · intro i' k' s' hg; (simp only [up_at, upr_at]; repeat' split) <;> first | (exfalso; (first | omega | (simp only [Pm, Cm, Sm, Gm, iP, iR, iI, iC, iS, true_and, and_true] at *; omega))) | exact h.sc i' k' s' hg
  · intro j hj; (simp only [up_at, upr_at]; repeat' split) <;> first | (exfalso; (first | omega | (simp only [Pm, Cm, Sm, Gm, iP, iR, iI, iC, iS, true_and, and_true] at *; omega))) | exact h.mem j hj
  · intro q j hq hj; (simp only [up_at, upr_at]; repeat' split) <;> first | (exfalso; (first | omega | (simp only [Pm, Cm, Sm, Gm, iP, iR, iI, iC, iS, true_and, and_true] at *; omega))) | exact h.img q j hq hj
  · intro q j hq hj; (simp only [up_at, upr_at]; repeat' split) <;> first | (exfalso; (first | omega | (simp only [Pm, Cm, Sm, Gm, iP, iR, iI, iC, iS, true_and, and_true] at *; omega))) | exact h.reg q j hq hj
  · intro c hc; refine ⟨(h.sil c hc).1, ?_⟩; (simp only [up_at, upr_at]; repeat' split) <;> first | (exfalso; (first | omega | (simp only [Pm, Cm, Sm, Gm, iP, iR, iI, iC, iS, true_and, and_true] at *; omega))) | exact (h.sil c hc).2
  · exact h.x0
  · intro q hq; rw [up_row (by (first | omega | (simp only [Pm, Cm, Sm, Gm, iP, iR, iI, iC, iS, true_and, and_true] at *; omega)))]; exact h.pol q hq
  · intro q hq; rw [up_row (by (first | omega | (simp only [Pm, Cm, Sm, Gm, iP, iR, iI, iC, iS, true_and, and_true] at *; omega)))]; exact h.rst q hq
theorem Re.upSilB {v : Int32} (h : Re a0 b0 none a b) : Re a0 b0 none a (up b 29 25 v) := by
  have hic := h.ic
  refine ⟨?_, ?_, ?_, ?_, ?_, ?_, ?_, ?_, ?_, ?_, ?_, ?_, ?_, ?_, ?_, ?_⟩
  · exact h.fa
  · intro j hj; rw [up_row (by (first | omega | (simp only [Pm, Cm, Sm, Gm, iP, iR, iI, iC, iS, true_and, and_true] at *; omega)))]; exact h.fb j hj
  · exact hic
  · intro q k' i' hq hk'; (simp only [up_at, upr_at]; repeat' split) <;> first | (exfalso; (first | omega | (simp only [Pm, Cm, Sm, Gm, iP, iR, iI, iC, iS, true_and, and_true] at *; omega))) | exact h.pt q k' i' hq hk'
  · intro q k' i' hq hk'; (simp only [up_at, upr_at]; repeat' split) <;> first | (exfalso; (first | omega | (simp only [Pm, Cm, Sm, Gm, iP, iR, iI, iC, iS, true_and, and_true] at *; omega))) | exact h.ch q k' i' hq hk'
  · intro q k' i' hq hk'; (simp only [up_at, upr_at]; repeat' split) <;> first | (exfalso; (first | omega | (simp only [Pm, Cm, Sm, Gm, iP, iR, iI, iC, iS, true_and, and_true] at *; omega))) | exact h.sl q k' i' hq hk'
  · intro w hw; (simp only [up_at, upr_at]; repeat' split) <;> first | (exfalso; (first | omega | (simp only [Pm, Cm, Sm, Gm, iP, iR, iI, iC, iS, true_and, and_true] at *; omega))) | exact h.tp w hw
  · intro w hw; (simp only [up_at, upr_at]; repeat' split) <;> first | (exfalso; (first | omega | (simp only [Pm, Cm, Sm, Gm, iP, iR, iI, iC, iS, true_and, and_true] at *; omega))) | exact h.tl w hw
  · intro i' k' s' hg; (simp only [up_at, upr_at]; repeat' split) <;> first | (exfalso; (first | omega | (simp only [Pm, Cm, Sm, Gm, iP, iR, iI, iC, iS, true_and, and_true] at *; omega))) | exact h.sc i' k' s' hg
  · intro j hj; (simp only [up_at, upr_at]; repeat' split) <;> first | (exfalso; (first | omega | (simp only [Pm, Cm, Sm, Gm, iP, iR, iI, iC, iS, true_and, and_true] at *; omega))) | exact h.mem j hj
  · intro q j hq hj; (simp only [up_at, upr_at]; repeat' split) <;> first | (exfalso; (first | omega | (simp only [Pm, Cm, Sm, Gm, iP, iR, iI, iC, iS, true_and, and_true] at *; omega))) | exact h.img q j hq hj
  · intro q j hq hj; (simp only [up_at, upr_at]; repeat' split) <;> first | (exfalso; (first | omega | (simp only [Pm, Cm, Sm, Gm, iP, iR, iI, iC, iS, true_and, and_true] at *; omega))) | exact h.reg q j hq hj
  · intro c hc; cases hc
  · exact h.x0
  · intro q hq; rw [up_row (by (first | omega | (simp only [Pm, Cm, Sm, Gm, iP, iR, iI, iC, iS, true_and, and_true] at *; omega)))]; exact h.pol q hq
  · intro q hq; rw [up_row (by (first | omega | (simp only [Pm, Cm, Sm, Gm, iP, iR, iI, iC, iS, true_and, and_true] at *; omega)))]; exact h.rst q hq
theorem Re.noO (h : Re a0 b0 o a b) : Re a0 b0 none a b := by
  refine ⟨h.fa, h.fb, h.ic, h.pt, h.ch, h.sl, h.tp, h.tl, h.sc, h.mem, h.img, h.reg, ?_, h.x0, h.pol, h.rst⟩
  intro c hc; cases hc
theorem Re.someO (h : Re a0 b0 o a b) {c : Nat} (hc4 : c < 4) (he : b 29 25 = a (iP c) 7) : Re a0 b0 (some c) a b := by
  refine ⟨h.fa, h.fb, h.ic, h.pt, h.ch, h.sl, h.tp, h.tl, h.sc, h.mem, h.img, h.reg, ?_, h.x0, h.pol, h.rst⟩
  intro c' hc; cases hc; exact ⟨hc4, he⟩
end RE1
