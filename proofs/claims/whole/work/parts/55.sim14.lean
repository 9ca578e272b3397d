/-! ONE CALL OF THE LAW: both sides, one after the other, in one state -/
section SIM14
variable {a0 b0 a b : St} {o : Option Nat}
theorem Re.cong2 {c d : St} (h : Re a0 b0 o a b) (ha : ∀ i, i < 29 → c i = a i) (hb : ∀ i, 29 ≤ i → i < 53 → d i = b i) : Re c d o c d := by
  have rP : ∀ q, q < 4 → c (iP q) = a (iP q) := fun q hq => ha _ (by unfold iP; omega)
  have rR : ∀ q, q < 4 → c (iR q) = a (iR q) := fun q hq => ha _ (by unfold iR; omega)
  have rI : ∀ q, q < 4 → c (iI q) = a (iI q) := fun q hq => ha _ (by unfold iI; omega)
  have rC : ∀ q, q < 4 → c (iC q) = a (iC q) := fun q hq => ha _ (by unfold iC; omega)
  have rS : ∀ q, q < 4 → c (iS q) = a (iS q) := fun q hq => ha _ (by unfold iS; omega)
  refine ⟨fun j hj => rfl, fun j hj => rfl, ?_, fun q k i hq hk => ?_, fun q k i hq hk => ?_, fun q k i hq hk => ?_, fun w hw => ?_, fun w hw => ?_, fun i k s hg => ?_, fun j hj => ?_, fun q j hq hj => ?_, fun q j hq hj => ?_, fun e he => ?_, fun q hq => ?_, fun q hq => ?_, fun q hq => ?_⟩
  · obtain ⟨i1, i2, i3, i4⟩ := h.ic
    refine ⟨fun q hq => by rw [rP q hq]; exact i1 q hq, by rw [ha 6 (by decide)]; exact i2, by rw [ha 6 (by decide)]; exact i3, fun w hw => by rw [ha 7 (by decide)]; exact i4 w hw⟩
  · rw [hb i (by unfold Pm at hk; omega) (by unfold Pm at hk; omega), rP q hq]; exact h.pt q k i hq hk
  · rw [hb i (by unfold Cm at hk; omega) (by unfold Cm at hk; omega), rC q hq]; exact h.ch q k i hq hk
  · rw [hb i (by unfold Sm at hk; omega) (by unfold Sm at hk; omega), rS q hq]; exact h.sl q k i hq hk
  · rw [hb 44 (by decide) (by decide), ha 7 (by decide)]; exact h.tp w hw
  · rw [hb 45 (by decide) (by decide), ha 8 (by decide)]; exact h.tl w hw
  · rw [hb 29 (by decide) (by decide), ha i (by unfold Gm at hg; omega)]; exact h.sc i k s hg
  · rw [hb 30 (by decide) (by decide), ha 2 (by decide)]; exact h.mem j hj
  · rw [hb 31 (by decide) (by decide), rI q hq]; exact h.img q j hq hj
  · rw [hb 32 (by decide) (by decide), rR q hq]; exact h.reg q j hq hj
  · have hc4 := (h.sil e he).1
    rw [hb 29 (by decide) (by decide), rP e hc4]; exact h.sil e he
  · rw [rR q hq]; exact h.x0 q hq
  · rw [hb 35 (by decide) (by decide)]; exact h.pol q hq
  · rw [hb 39 (by decide) (by decide)]; exact h.rst q hq
theorem Rt.cong2 {c d : St} (h : Rt a0 b0 a b) (ha : ∀ i, i < 29 → c i = a i) (hb : ∀ i, 29 ≤ i → i < 53 → d i = b i) : Rt c d c d := by
  have hp : pnow c = pnow a := pnow_tr (ha 6 (by decide)) (ha 7 (by decide))
  have hlt := vin_lt (pn_in h.1.ic)
  refine ⟨h.1.cong2 ha hb, ⟨fun w hw h1 => ?_, fun h1 => ?_⟩, fun h1 => ?_⟩
  · rw [hb 29 (by decide) (by decide)] at h1
    rw [hb 45 (by decide) (by decide)]; exact h.2.1.1 w hw h1
  · rw [hb 29 (by decide) (by decide)] at h1 ⊢
    exact h.2.1.2 h1
  · rw [hb 29 (by decide) (by decide)] at h1 ⊢
    rw [hp, ha (iP (pnow a)) (by unfold iP; have : pnow a < 4 := hlt; omega)]
    exact h.2.2 h1
theorem glue {σ S1 : St} {E : Int32 × Int32 × St} {Fr : St → St} {vr : St → Int32} {k : Int32} (h : Rt σ σ σ σ) (hs : ∀ (a0 b0 b : St), Rt a0 b0 σ b → Sf a0 b0 k E (vr b) (Fr b)) (h1 : ∀ i, i < 53 → S1 i = E.2.2 i) : Im S1 ∧ (Fr S1) 29 33 = k ∧ (E.1 = 0 → E.2.1 = vr S1) ∧ Rt (Fr S1) (Fr S1) (Fr S1) (Fr S1) ∧ (Fr S1) 53 = S1 53 := by
  obtain ⟨-, -, r1⟩ := hs σ σ σ h
  have e1 : ∀ i, 29 ≤ i → i < 53 → S1 i = σ i := fun i hi hj => (h1 i hj).trans (r1.1.fa i hi)
  have h2 : Rt σ S1 σ S1 := h.cong2 (fun i _ => rfl) e1
  obtain ⟨g1, g2, g3⟩ := hs σ S1 S1 h2
  refine ⟨?_, g1, g2, ?_, g3.1.fb 53 (by omega)⟩
  · refine h.im.same (e1 33 (by decide) (by decide)) (e1 34 (by decide) (by decide)) (e1 44 (by decide) (by decide)) ?_ ?_ ?_ <;> rw [show S1 iMO = σ iMO from e1 29 (by decide) (by decide)]
  · exact g3.cong2 (fun i hi => (g3.1.fb i (by omega)).trans (h1 i (by omega))) (fun i _ _ => rfl)
theorem wo_row (E : Int32 × Int32 × St) : ∀ i, i < 53 → wo E i = E.2.2 i := by
  intro i hi
  unfold wo
  split
  · exact up_row (by unfold iOUT; omega)
  · rfl
theorem wo_out {E : Int32 × Int32 × St} (h : E.1 = 0) : wo E iOUT (0 : Int32).toNatClampNeg = E.2.1 := by
  unfold wo
  rw [if_pos h, up_at, if_pos ⟨rfl, rfl⟩]
theorem w01_0 {x : Int32} (h : w01 x = 0) : x = 0 := by
  unfold w01 at h
  by_cases q : x = 0
  · exact q
  · rw [if_neg q] at h; exact absurd h (by decide)
/-- what the law needs of the out cell: the class's answer against the reference's -/
theorem outEq {E : Int32 × Int32 × St} {S2 : St} {v : Int32} (h0 : E.1 = 0) (hv : E.1 = 0 → E.2.1 = v) (h53 : S2 53 = wo E 53) : S2 iOUT (0 : Int32).toNatClampNeg = v := by
  rw [show S2 iOUT = _ from h53]
  exact (wo_out h0).trans (hv h0)
theorem idr (E : Int32 × Int32 × St) : ∀ i, i < 53 → E.2.2 i = E.2.2 i := fun _ _ => rfl
end SIM14
