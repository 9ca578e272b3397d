/-! THE TWO SIDES: what they reckon alike without a state -/
theorem nIc {p : Nat} (hp : p < 4) : (nI p).toNatClampNeg = p := nI_clamp (by omega)
theorem ix16 {p : Nat} (hp : p < 4) {y : Int32} (hy : vp_in y 16) : ((nI p * 16) + y).toNatClampNeg = 16 * p + y.toNatClampNeg := by
  obtain ⟨j, hj, rfl⟩ := vp_in_of hy (by omega)
  rw [show (16 : Int32) = nI 16 from rfl, pk_mul, nI_add, nI_clamp (by omega), nI_clamp (by omega)]
  omega
theorem ix32 {p : Nat} (hp : p < 4) {y : Int32} (hy : vp_in y 32) : ((nI p * 32) + y).toNatClampNeg = 32 * p + y.toNatClampNeg := by
  obtain ⟨j, hj, rfl⟩ := vp_in_of hy (by omega)
  rw [show (32 : Int32) = nI 32 from rfl, pk_mul, nI_add, nI_clamp (by omega), nI_clamp (by omega)]
  omega
theorem lwEq (a b : Int32) : f_RE_lessWithoutSign a b = f_MO_below a b := by
  unfold f_RE_lessWithoutSign f_MO_below
  rw [xmin, xmin]
theorem mixEq (a b : Int32) : f_SM_mix a b = f_MO_mix a b := rfl
theorem knEq (w : Int32) : f_CO_isKnown w = f_MO_known w := by
  unfold f_CO_isKnown f_MO_known f_CO_isKnownWithImmediate f_CO_isKnownWithRegister f_CO_o f_CO_f f_CO_g f_CO_rd f_CO_rs1 f_CO_rs2
  by_cases o1 : w &&& 127 = 3
  · rw [if_pos o1, if_pos o1]
  rw [if_neg o1, if_neg o1]
  by_cases o2 : w &&& 127 = 19
  · rw [if_pos o2, if_pos o2]
    generalize (ushr w 12) &&& 7 = f
    generalize ushr w 25 = g
    by_cases h1 : f = 1
    · subst h1
      by_cases hg : g = 0 <;> simp [hg]
    · by_cases h5 : f = 5
      · subst h5
        by_cases hg : g = 0
        · simp [hg]
        · by_cases hg2 : g = 32 <;> simp [hg, hg2]
      · simp [h1, h5]
  rw [if_neg o2, if_neg o2]
  by_cases o3 : w &&& 127 = 23
  · rw [if_pos o3, if_pos o3]
  rw [if_neg o3, if_neg o3]
  by_cases o4 : w &&& 127 = 35
  · rw [if_pos o4, if_pos o4]
  rw [if_neg o4, if_neg o4]
  by_cases o5 : w &&& 127 = 51
  · rw [if_pos o5, if_pos o5]
    generalize (ushr w 12) &&& 7 = f
    generalize ushr w 25 = g
    by_cases hg : g = 0
    · simp [hg]
    · by_cases hg2 : g = 32
      · by_cases h1 : f = 0
        · simp [hg, hg2, h1]
        · by_cases h5 : f = 5 <;> simp [hg, hg2, h1, h5]
      · simp [hg, hg2]
  rw [if_neg o5, if_neg o5]
  by_cases o6 : w &&& 127 = 55
  · rw [if_pos o6, if_pos o6]
  rw [if_neg o6, if_neg o6]
  by_cases o7 : w &&& 127 = 99
  · rw [if_pos o7, if_pos o7]
  rw [if_neg o7, if_neg o7]
  by_cases o8 : w &&& 127 = 103
  · rw [if_pos o8, if_pos o8]
  rw [if_neg o8, if_neg o8]
  by_cases o9 : w &&& 127 = 111
  · rw [if_pos o9, if_pos o9]
  rw [if_neg o9, if_neg o9]
  by_cases o10 : w &&& 127 = 115
  · rw [if_pos o10]
  rw [if_neg o10]
  have e1 : ¬ w = 115 := fun e => o10 (by rw [e]; decide)
  have e2 : ¬ w = 1048691 := fun e => o10 (by rw [e]; decide)
  rw [if_neg e1, if_neg e2]
theorem goEq {f : Int32} (hf : vp_in f 8) (h2 : ¬ f = 2) (h3 : ¬ f = 3) (a b : Int32) : f_RE_branches f a b = f_MO_goes f a b := by
  obtain ⟨j, hj, rfl⟩ := vp_in_of hf (by omega)
  have hz := fun x y : Int32 => lwEq x y
  have hl : ∀ x y : Int32, f_MO_below x y = 0 ∨ f_MO_below x y = 1 := fun x y => by
    unfold f_MO_below; split <;> simp
  unfold f_RE_branches f_MO_goes
  rw [hz]
  have ht : a < b ↔ ¬ b ≤ a := by rw [ilt, ile]; omega
  have cs : j = 0 ∨ j = 1 ∨ j = 2 ∨ j = 3 ∨ j = 4 ∨ j = 5 ∨ j = 6 ∨ j = 7 := by omega
  rcases cs with rfl | rfl | rfl | rfl | rfl | rfl | rfl | rfl
  · rw [show nI 0 = (0 : Int32) from rfl, if_pos (show (0 : Int32) = 0 from rfl), if_neg (show ¬ (2 : Int32) ≤ 0 by decide), if_pos (show (0 - 0 / 2 * 2 : Int32) = 0 by decide)]
    by_cases h : a = b <;> simp [h]
  · rw [show nI 1 = (1 : Int32) from rfl, if_neg (show ¬ (1 : Int32) = 0 by decide), if_pos (show (1 : Int32) = 1 from rfl), if_neg (show ¬ (2 : Int32) ≤ 1 by decide), if_neg (show ¬ (1 - 1 / 2 * 2 : Int32) = 0 by decide)]
    by_cases h : a = b <;> simp [h]
  · exact absurd rfl h2
  · exact absurd rfl h3
  · rw [show nI 4 = (4 : Int32) from rfl, if_neg (show ¬ (4 : Int32) = 0 by decide), if_neg (show ¬ (4 : Int32) = 1 by decide), if_neg (show ¬ (4 : Int32) = 2 by decide), if_neg (show ¬ (4 : Int32) = 3 by decide), if_pos (show (4 : Int32) = 4 from rfl), if_pos (show (2 : Int32) ≤ 4 by decide), if_neg (show ¬ (6 : Int32) ≤ 4 by decide), if_pos (show (4 - 4 / 2 * 2 : Int32) = 0 by decide)]
    by_cases h : b ≤ a <;> simp [h]
  · rw [show nI 5 = (5 : Int32) from rfl, if_neg (show ¬ (5 : Int32) = 0 by decide), if_neg (show ¬ (5 : Int32) = 1 by decide), if_neg (show ¬ (5 : Int32) = 2 by decide), if_neg (show ¬ (5 : Int32) = 3 by decide), if_neg (show ¬ (5 : Int32) = 4 by decide), if_pos (show (5 : Int32) = 5 from rfl), if_pos (show (2 : Int32) ≤ 5 by decide), if_neg (show ¬ (6 : Int32) ≤ 5 by decide), if_neg (show ¬ (5 - 5 / 2 * 2 : Int32) = 0 by decide)]
    by_cases h : b ≤ a
    · rw [if_neg (fun e => ht.mp e h), if_pos h]; rfl
    · rw [if_pos (ht.mpr h), if_neg h]; rfl
  · rw [show nI 6 = (6 : Int32) from rfl, if_neg (show ¬ (6 : Int32) = 0 by decide), if_neg (show ¬ (6 : Int32) = 1 by decide), if_neg (show ¬ (6 : Int32) = 2 by decide), if_neg (show ¬ (6 : Int32) = 3 by decide), if_neg (show ¬ (6 : Int32) = 4 by decide), if_neg (show ¬ (6 : Int32) = 5 by decide), if_pos (show (6 : Int32) = 6 from rfl), if_pos (show (2 : Int32) ≤ 6 by decide), if_pos (show (6 : Int32) ≤ 6 by decide), if_pos (show (6 - 6 / 2 * 2 : Int32) = 0 by decide)]
    rcases hl a b with h | h <;> rw [h] <;> decide
  · rw [show nI 7 = (7 : Int32) from rfl, if_neg (show ¬ (7 : Int32) = 0 by decide), if_neg (show ¬ (7 : Int32) = 1 by decide), if_neg (show ¬ (7 : Int32) = 2 by decide), if_neg (show ¬ (7 : Int32) = 3 by decide), if_neg (show ¬ (7 : Int32) = 4 by decide), if_neg (show ¬ (7 : Int32) = 5 by decide), if_neg (show ¬ (7 : Int32) = 6 by decide), if_pos (show (2 : Int32) ≤ 7 by decide), if_pos (show (6 : Int32) ≤ 7 by decide), if_neg (show ¬ (7 - 7 / 2 * 2 : Int32) = 0 by decide)]
theorem cbImm (f g a w : Int32) : f_RE_combined f ((if ((if g = 32 then 1 else 0) : Int32) = 0 then 0 else (if f = 5 then 1 else 0)) : Int32) a (sshr w 20) = f_MO_sum f a ((if f = 1 then ((ushr w 20) &&& 31) else (if f = 5 then ((ushr w 20) &&& 31) else (sshr w 20))) : Int32) ((if f = 5 then (if g = 32 then 1 else 0) else 0) : Int32) := by
  unfold f_RE_combined f_MO_sum
  rw [lwEq]
  by_cases h0 : f = 0
  · subst h0; simp
  by_cases h1 : f = 1
  · subst h1; simp [sh31]
  by_cases h5 : f = 5
  · subst h5; by_cases hg : g = 32 <;> simp [hg, sh31]
  simp [h0, h1, h5]
theorem cbReg (f g a b : Int32) : f_RE_combined f ((if g = 32 then 1 else 0) : Int32) a b = f_MO_sum f a ((if f = 1 then (b &&& 31) else (if f = 5 then (b &&& 31) else b)) : Int32) ((if g = 32 then 1 else 0) : Int32) := by
  unfold f_RE_combined f_MO_sum
  rw [lwEq]
  by_cases h0 : f = 0
  · subst h0; simp
  by_cases h1 : f = 1
  · subst h1; simp
  by_cases h5 : f = 5
  · subst h5; simp
  simp [h0, h1, h5]
theorem wiEq (x m : Int32) : f_SM_within x 0 m = 0 ↔ ¬ f_MO_no x m = 0 := by
  unfold f_SM_within f_MO_no
  have ht : m < x ↔ ¬ x ≤ m := by rw [ilt, ile]; omega
  by_cases h : x < 0
  · simp [h]
  · by_cases h2 : x ≤ m
    · simp [h, h2, ht]
    · simp [h, h2, ht]
theorem wiNo {x m : Int32} (h : f_MO_no x m = 0) : f_SM_within x 0 m = 1 := by
  have h1 : ¬ f_SM_within x 0 m = 0 := fun e => (wiEq x m).mp e h
  unfold f_SM_within at h1 ⊢
  split
  · rename_i q; rw [if_pos q] at h1; exact absurd rfl h1
  · rename_i q; rw [if_neg q] at h1
    split
    · rename_i r; rw [if_pos r] at h1; exact absurd rfl h1
    · rfl
theorem wiNo0 {x m : Int32} (h : ¬ f_MO_no x m = 0) : f_SM_within x 0 m = 0 := (wiEq x m).mpr h
theorem zno (x m : Int32) : f_MO_no x m = 0 ∨ f_MO_no x m = 1 := by
  unfold f_MO_no; split
  · exact Or.inr rfl
  · split <;> simp
theorem ci1 {p k i : Nat} {a0 b0 a b : St} {o : Option Nat} (h : Re a0 b0 o a b) (hp : p < 4) (hk : Pm k i) : b i p = a (iP p) k := h.pt p k i hp hk
theorem chA {x : Int32} (h3 : x &&& 3 = 0) (h : f_MO_at x < 0) : f_MA_channelAt x < 0 ∨ (4 : Int32) ≤ f_MA_channelAt x := by
  have h4 := al4 h3
  unfold f_MA_channelAt
  unfold f_MO_at at h
  have z0 : (0 : Int32).toInt = 0 := by decide
  have z1 : (4096 : Int32).toInt = 4096 := by decide
  have z2 : (4108 : Int32).toInt = 4108 := by decide
  have z4 : (4 : Int32).toInt = 4 := by decide
  have b1 := Int32.toInt_lt x
  have b2 := Int32.le_toInt x
  have hd : ((x - 4096) / 4).toInt = (x - 4096).toInt.tdiv 4 := by
    rw [Int32.toInt_div_of_ne_right _ _ (by decide), z4]
  have td : ∀ y : Int, y % 4 = 0 → y.tdiv 4 = y / 4 := fun y hy => by
    obtain ⟨q, hq⟩ : ∃ q, y = 4 * q := ⟨y / 4, by omega⟩
    rw [hq, Int.mul_tdiv_cancel_left _ (by omega)]; omega
  rw [ilt, ile, hd, z0, z4]
  by_cases c1 : x < 4096
  · rw [ilt, z1] at c1
    by_cases c2 : -2147483648 + 4096 ≤ x.toInt
    · have e : (x - 4096).toInt = x.toInt - 4096 := by
        rw [Int32.toInt_sub, z1]
        apply Int.bmod_eq_of_le <;> omega
      rw [e, td _ (by omega)]
      left
      omega
    · have e : (x - 4096).toInt = x.toInt - 4096 + 4294967296 := by
        rw [Int32.toInt_sub, z1, ← Int.add_bmod_right (x.toInt - 4096) (2 ^ 32)]
        apply Int.bmod_eq_of_le <;> omega
      rw [e, td _ (by omega)]
      right
      omega
  · by_cases c2 : (4108 : Int32) < x
    · rw [ilt, z2] at c2
      have e : (x - 4096).toInt = x.toInt - 4096 := by
        rw [Int32.toInt_sub, z1]
        apply Int.bmod_eq_of_le <;> omega
      rw [e, td _ (by omega)]
      right
      omega
    · exfalso
      rw [if_neg c1, if_neg c2] at h
      rw [ilt, z1] at c1
      rw [ilt, z2] at c2
      rw [ilt, hd, z0] at h
      have e : (x - 4096).toInt = x.toInt - 4096 := by
        rw [Int32.toInt_sub, z1]
        apply Int.bmod_eq_of_le <;> omega
      rw [e, td _ (by omega)] at h
      omega
theorem chB {x : Int32} (h : ¬ f_MO_at x < 0) : f_MA_channelAt x = f_MO_at x := by
  unfold f_MA_channelAt
  unfold f_MO_at at h ⊢
  by_cases c1 : x < 4096
  · rw [if_pos c1] at h; exact absurd (by decide) h
  · rw [if_neg c1] at h ⊢
    by_cases c2 : (4108 : Int32) < x
    · rw [if_pos c2] at h; exact absurd (by decide) h
    · rw [if_neg c2]
