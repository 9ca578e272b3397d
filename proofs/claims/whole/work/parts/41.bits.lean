/-! ===== Int32 by its bits: bt x i ===== -/
def bt (x : Int32) (i : Nat) : Bool := x.toBitVec.getLsbD i
theorem b_ext {x y : Int32} (h : ∀ i, i < 32 → bt x i = bt y i) : x = y := Int32.toBitVec_inj.mp (BitVec.eq_of_getLsbD_eq (fun i hi => h i hi))
theorem b_or (x y : Int32) (i : Nat) : bt (x ||| y) i = (bt x i || bt y i) := by unfold bt; rw [Int32.toBitVec_or, BitVec.getLsbD_or]
theorem b_and (x y : Int32) (i : Nat) : bt (x &&& y) i = (bt x i && bt y i) := by unfold bt; rw [Int32.toBitVec_and, BitVec.getLsbD_and]
theorem b_xor (x y : Int32) (i : Nat) : bt (x ^^^ y) i = (bt x i ^^ bt y i) := by unfold bt; rw [Int32.toBitVec_xor, BitVec.getLsbD_xor]
theorem b_big {x : Int32} {i : Nat} (h : 32 ≤ i) : bt x i = false := BitVec.getLsbD_of_ge _ _ h
theorem b_m1 : ∀ i, i < 32 → bt (-1) i = true := by decide +kernel
theorem b_0 (i : Nat) : bt 0 i = false := BitVec.getLsbD_zero
theorem s_l : ∀ n, n < 32 → ((nI n &&& 31).toBitVec.smod 32).toNat = n := by decide +kernel
theorem s_u : ∀ n, n < 32 → (((nI n).toUInt32 &&& Int32.toUInt32 31).toBitVec % 32).toNat = n := by decide +kernel
theorem b_shl (n : Nat) (hn : n < 32) (x : Int32) {i : Nat} (hi : i < 32) : bt (x <<< (nI n &&& 31)) i = (decide (n ≤ i) && bt x (i - n)) := by
  unfold bt
  rw [Int32.toBitVec_shiftLeft]
  show (x.toBitVec <<< ((nI n &&& 31).toBitVec.smod 32).toNat).getLsbD i = _
  rw [s_l n hn, BitVec.getLsbD_shiftLeft]
  rcases Nat.lt_or_ge i n with h | h
  · simp [h, Nat.not_le.mpr h]
  · simp [hi, h, Nat.not_lt.mpr h]
theorem b_ushr (n : Nat) (hn : n < 32) (x : Int32) (i : Nat) : bt ((x.toUInt32 >>> ((nI n).toUInt32 &&& Int32.toUInt32 31)).toInt32) i = bt x (n + i) := by
  show (x.toUInt32 >>> ((nI n).toUInt32 &&& Int32.toUInt32 31)).toBitVec.getLsbD i = x.toUInt32.toBitVec.getLsbD (n + i)
  rw [UInt32.toBitVec_shiftRight]
  show (x.toUInt32.toBitVec >>> (((nI n).toUInt32 &&& Int32.toUInt32 31).toBitVec % 32).toNat).getLsbD i = _
  rw [s_u n hn, BitVec.getLsbD_ushiftRight]
theorem b_sshr (n : Nat) (hn : n < 32) (x : Int32) {i : Nat} (hi : i < 32) : bt (x >>> (nI n &&& 31)) i = if n + i < 32 then bt x (n + i) else bt x 31 := by
  unfold bt
  rw [Int32.toBitVec_shiftRight]
  show (x.toBitVec.sshiftRight ((nI n &&& 31).toBitVec.smod 32).toNat).getLsbD i = _
  rw [s_l n hn, BitVec.getLsbD_sshiftRight, BitVec.msb_eq_getLsbD_last]
  simp [hi]
theorem b_msk (m : Int32) (k : Nat) (h : ∀ i, i < 32 → bt m i = decide (i < k)) (x : Int32) {i : Nat} (hi : i < 32) : bt (x &&& m) i = (bt x i && decide (i < k)) := by
  rw [b_and, h i hi]
theorem c_ushr (n : Nat) (hn : n < 32) (x : Int32) (i : Nat) : bt (ushr x (nI n)) i = bt x (n + i) := b_ushr n hn x i
theorem c_sshr (n : Nat) (hn : n < 32) (x : Int32) {i : Nat} (hi : i < 32) : bt (sshr x (nI n)) i = if n + i < 32 then bt x (n + i) else bt x 31 := b_sshr n hn x hi
theorem c_shl (n : Nat) (hn : n < 32) (x : Int32) {i : Nat} (hi : i < 32) : bt (shl x (nI n)) i = (decide (n ≤ i) && bt x (i - n)) := b_shl n hn x hi
theorem imJ (x : Int32) : shl ((ushr x 12) &&& 255) 12 = x &&& 1044480 := by
  refine b_ext fun i hi => ?_
  rw [show (12 : Int32) = nI 12 from rfl, c_shl 12 (by omega) _ hi, b_and, b_and, c_ushr 12 (by omega)]
  have h1 : ∀ i, i < 32 → bt 1044480 i = (decide (12 ≤ i) && bt 255 (i - 12)) := by decide +kernel
  rw [h1 i hi]
  by_cases h : 12 ≤ i
  · rw [Nat.add_sub_cancel' h]; simp [h]
  · simp [h]
theorem sh31 (x : Int32) : (sshr x 20) &&& 31 = (ushr x 20) &&& 31 := by
  refine b_ext fun i hi => ?_
  rw [show (20 : Int32) = nI 20 from rfl, b_and, b_and, c_ushr 20 (by omega), c_sshr 20 (by omega) _ hi]
  have h1 : ∀ i, i < 32 → bt 31 i = decide (i < 5) := by decide +kernel
  rw [h1 i hi]
  by_cases h : i < 5
  · rw [if_pos (by omega)]
  · simp [h]
theorem and3131 (x : Int32) : (x &&& 31) &&& 31 = x &&& 31 := by
  refine b_ext fun i _ => ?_
  rw [b_and, b_and, Bool.and_assoc, Bool.and_self]
theorem shl31 (x y : Int32) : shl x (y &&& 31) = shl x y := by unfold shl; rw [and3131]
theorem sshr31 (x y : Int32) : sshr x (y &&& 31) = sshr x y := by unfold sshr; rw [and3131]
theorem ushr31 (x y : Int32) : ushr x (y &&& 31) = ushr x y := by
  have h : ∀ z : Int32, z.toUInt32 &&& Int32.toUInt32 31 = (z &&& 31).toUInt32 := fun z => rfl
  unfold ushr; rw [h, h, and3131]
theorem rdrs {p : Nat} (hp : p < 4) (r : Int32) : (ushr r (nI p)) &&& 1 = (sshr r (nI p)) &&& 1 := by
  refine b_ext fun i hi => ?_
  rw [b_and, b_and, c_ushr p (by omega), c_sshr p (by omega) _ hi]
  have h1 : ∀ i, i < 32 → bt 1 i = decide (i < 1) := by decide +kernel
  rw [h1 i hi]
  by_cases h : i < 1
  · rw [if_pos (by omega)]
  · simp [h]
theorem and1 (x : Int32) : x &&& 1 = 0 ∨ x &&& 1 = 1 := by
  have h1 : ∀ i, i < 32 → bt 1 i = decide (i < 1) := by decide +kernel
  cases hb : bt x 0 with
  | false =>
    left; refine b_ext fun i hi => ?_
    rw [b_and, h1 i hi, b_0]
    by_cases h : i < 1
    · obtain rfl : i = 0 := by omega
      rw [hb]; rfl
    · simp [h]
  | true =>
    right; refine b_ext fun i hi => ?_
    rw [b_and, h1 i hi]
    by_cases h : i < 1
    · obtain rfl : i = 0 := by omega
      rw [hb]; rfl
    · simp [h]
theorem rd_iff {p : Nat} (hp : p < 4) (r : Int32) : ((ushr r (nI p)) &&& 1 = 1) ↔ ¬ ((sshr r (nI p)) &&& 1) = 0 := by
  rw [rdrs hp]
  rcases and1 (sshr r (nI p)) with h | h <;> rw [h] <;> decide
theorem bt_add (x y : Int32) (i : Nat) : bt (x + y) i = (x.toBitVec + y.toBitVec).getLsbD i := by unfold bt; rw [Int32.toBitVec_add]
theorem xmin (x : Int32) : x ^^^ (-2147483648) = x + (-2147483648) := by
  refine Int32.toBitVec_inj.mp ?_
  rw [Int32.toBitVec_xor, Int32.toBitVec_add, show (-2147483648 : Int32).toBitVec = BitVec.ofNat 32 (2 ^ 31) from by decide]
  apply BitVec.eq_of_toNat_eq
  rw [BitVec.toNat_xor, BitVec.toNat_add, show (BitVec.ofNat 32 (2 ^ 31)).toNat = 2 ^ 31 from by decide]
  have hx := x.toBitVec.isLt
  generalize x.toBitVec.toNat = n at hx
  apply Nat.eq_of_testBit_eq
  intro j
  rw [Nat.testBit_xor, Nat.testBit_mod_two_pow, Nat.add_comm, Nat.testBit_two_pow]
  rcases Nat.lt_trichotomy j 31 with h | h | h
  · rw [Nat.testBit_two_pow_add_gt h, decide_eq_true (show j < 32 by omega), decide_eq_false (show ¬ 31 = j by omega)]; simp
  · subst h
    rw [Nat.testBit_two_pow_add_eq]; simp
  · rw [decide_eq_false (show ¬ j < 32 by omega), decide_eq_false (show ¬ 31 = j by omega), Nat.testBit_lt_two_pow (Nat.lt_of_lt_of_le hx (Nat.pow_le_pow_right (by omega) (by omega)))]; simp
theorem and1531 {z : Int32} (h : ¬ (16 : Int32) ≤ (z &&& 31)) : z &&& 15 = z &&& 31 := by
  have e : z &&& 15 = (z &&& 31) &&& 15 := by
    refine b_ext fun i hi => ?_
    have h1 : ∀ i, i < 32 → bt 15 i = decide (i < 4) := by decide +kernel
    have h2 : ∀ i, i < 32 → bt 31 i = decide (i < 5) := by decide +kernel
    rw [b_and, b_and, b_and, h1 i hi, h2 i hi]
    by_cases h4 : i < 4
    · simp [h4, show i < 5 by omega]
    · simp [h4]
  rw [e]
  refine b_ext fun i hi => ?_
  have h1 : ∀ i, i < 32 → bt 15 i = decide (i < 4) := by decide +kernel
  rw [b_and, h1 i hi]
  by_cases h4 : i < 4
  · simp [h4]
  · have h2 : ∀ i, i < 32 → bt 31 i = decide (i < 5) := by decide +kernel
    simp only [h4, decide_false, Bool.and_false]
    rw [b_and, h2 i hi]
    by_cases h5 : i < 5
    · obtain rfl : i = 4 := by omega
      cases hb : bt z 4 with
      | false => rfl
      | true =>
        exfalso; apply h
        have hm : (z &&& 31).toBitVec.msb = false := by
          rw [BitVec.msb_eq_getLsbD_last]
          show bt (z &&& 31) 31 = false
          rw [b_and, h2 31 (by omega)]; simp
        rw [Int32.le_iff_toInt_le]
        show (16 : Int32).toInt ≤ (z &&& 31).toBitVec.toInt
        rw [BitVec.toInt_eq_toNat_of_msb hm, show (16 : Int32).toInt = 16 by decide]
        have h3 : (z &&& 31).toBitVec.toNat.testBit 4 = true := by
          have : bt (z &&& 31) 4 = true := by rw [b_and, hb]; decide
          exact this
        have := Nat.ge_two_pow_of_testBit h3
        omega
    · simp [h5]
theorem al4 {x : Int32} (h : x &&& 3 = 0) : x.toInt % 4 = 0 := by
  have h1 : (x &&& 3).toBitVec.toNat = 0 := by rw [h]; decide
  rw [Int32.toBitVec_and, BitVec.toNat_and, show (3 : Int32).toBitVec.toNat = 2 ^ 2 - 1 from by decide, Nat.and_two_pow_sub_one_eq_mod] at h1
  show x.toBitVec.toInt % 4 = 0
  rw [BitVec.toInt_eq_toNat_cond]
  split <;> omega
