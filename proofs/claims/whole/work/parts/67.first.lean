/-! THE FIRST STATE -/
def arr4 (v : Int32) : Nat → Int32 := upd (upd (upd (upd (fun _ => 0) (0 : Int32).toNatClampNeg v) (1 : Int32).toNatClampNeg v) (2 : Int32).toNatClampNeg v) (3 : Int32).toNatClampNeg v
def sig0 (key : Int32) : St := fun i => match i with
  | 1 => fun k => match k with
    | 0 => key
    | _ => 0
  | 12 => fun k => match k with
    | 0 => 1
    | _ => 0
  | 15 => fun k => match k with
    | 0 => 2
    | _ => 0
  | 18 => fun k => match k with
    | 0 => 3
    | _ => 0
  | 21 => fun k => match k with
    | 0 => -1
    | 2 => 1
    | _ => 0
  | 22 => fun k => match k with
    | 0 => -1
    | 2 => 1
    | _ => 0
  | 23 => fun k => match k with
    | 0 => -1
    | 2 => 1
    | _ => 0
  | 24 => fun k => match k with
    | 0 => -1
    | 2 => 1
    | _ => 0
  | 29 => fun k => match k with
    | 23 => key
    | _ => 0
  | 46 => arr4 (-1)
  | 48 => arr4 1
  | _ => fun _ => 0
theorem arr4_at (v : Int32) {k : Nat} (hk : k < 4) : arr4 v k = v := by
  have cs : k = 0 ∨ k = 1 ∨ k = 2 ∨ k = 3 := by omega
  rcases cs with rfl | rfl | rfl | rfl <;> rfl
theorem p4 {P : Nat → Prop} (h0 : P 0) (h1 : P 1) (h2 : P 2) (h3 : P 3) : ∀ p, p < 4 → P p := by
  intro p hp
  have cs : p = 0 ∨ p = 1 ∨ p = 2 ∨ p = 3 := by omega
  rcases cs with rfl | rfl | rfl | rfl
  · exact h0
  · exact h1
  · exact h2
  · exact h3
theorem Rt0 (key : Int32) : Rt (sig0 key) (sig0 key) (sig0 key) (sig0 key) := by
  refine ⟨⟨fun _ _ => rfl, fun _ _ => rfl, ⟨?_, ?_, ?_, ?_⟩, ?_, ?_, ?_, ?_, ?_, ?_, ?_, ?_, ?_, ?_, ?_, ?_, ?_⟩, ⟨?_, ?_⟩, ?_⟩
  · have z : (0 : Int) ≤ (0 : Int32).toInt ∧ (0 : Int) ≤ (0 : Int32).toInt ∧ (0 : Int32).toInt ≤ 32 ∧ (0 : Int32).toInt + (0 : Int32).toInt ≤ 96 := by decide
    exact p4 ⟨rfl, z⟩ ⟨rfl, z⟩ ⟨rfl, z⟩ ⟨rfl, z⟩
  · show 0 ≤ (0 : Int32).toInt ∧ (0 : Int32).toInt ≤ 6
    decide
  · show 0 ≤ (0 : Int32).toInt ∧ (0 : Int32).toInt < 6
    decide
  · intro w _
    show 0 ≤ (0 : Int32).toInt ∧ (0 : Int32).toInt < 4
    decide
  · intro p k i hp hk
    revert p
    rcases hk with ⟨rfl, rfl⟩ | ⟨rfl, rfl⟩ | ⟨rfl, rfl⟩ | ⟨rfl, rfl⟩ | ⟨rfl, rfl⟩ | ⟨rfl, rfl⟩ | ⟨rfl, rfl⟩ | ⟨rfl, rfl⟩ | ⟨rfl, rfl⟩ | ⟨rfl, rfl⟩ <;> exact p4 rfl rfl rfl rfl
  · intro p k i hp hk
    revert p
    rcases hk with ⟨rfl, rfl⟩ | ⟨rfl, rfl⟩ | ⟨rfl, rfl⟩ | ⟨rfl, rfl⟩ | ⟨rfl, rfl⟩ | ⟨rfl, rfl⟩ <;> exact p4 rfl rfl rfl rfl
  · intro p k i hp hk
    revert p
    rcases hk with ⟨rfl, rfl⟩ | ⟨rfl, rfl⟩ <;> exact p4 rfl rfl rfl rfl
  · intro w _; rfl
  · intro w _; rfl
  · intro i k s hg
    rcases hg with ⟨rfl, rfl, rfl⟩ | ⟨rfl, rfl, rfl⟩ | ⟨rfl, rfl, rfl⟩ | ⟨rfl, rfl, rfl⟩ | ⟨rfl, rfl, rfl⟩ | ⟨rfl, rfl, rfl⟩ | ⟨rfl, rfl, rfl⟩ | ⟨rfl, rfl, rfl⟩ | ⟨rfl, rfl, rfl⟩ <;> rfl
  · intro j _; rfl
  · intro p j hp _
    revert p
    exact p4 rfl rfl rfl rfl
  · intro p j hp _
    revert p
    exact p4 rfl rfl rfl rfl
  · intro c hc; exact absurd hc (by simp)
  · exact p4 rfl rfl rfl rfl
  · intro p _; exact Or.inl rfl
  · intro p _
    show 0 ≤ (0 : Int32).toInt ∧ (0 : Int32).toInt ≤ 3
    decide
  · intro w _ h1
    exfalso
    revert h1
    show ¬ ((w : Int) < (0 : Int32).toInt)
    rw [t0i]; omega
  · intro h1; exact absurd rfl h1
  · intro h1; exact absurd rfl h1
