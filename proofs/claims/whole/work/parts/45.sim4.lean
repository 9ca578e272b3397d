/-! THE TWO SIDES: an instruction, and a step -/
theorem zin {z : Int32} (h : ¬ (16 : Int32) ≤ (z &&& 31)) : vp_in (z &&& 31) 16 := by
  have h1 : vp_in (z &&& 31) 32 := pk_andIn z (m := 31) 5 (by decide) (by decide)
  obtain ⟨j, hj, ej⟩ := vp_in_of h1 (by decide)
  rw [ej] at h ⊢
  rw [ile, nI_toInt (by omega)] at h
  have z : (16 : Int32).toInt = 16 := by decide
  exact vp_in_nI (by omega) (by decide)
theorem k1_103 {w : Int32} (hk : ¬ f_MO_known w = 0) (ho : (w &&& 127) = 103) : ¬ (16 : Int32) ≤ ((ushr w 15) &&& 31) := fun h => hk (by unfold f_MO_known; rw [ho]; simp [h])
theorem k1_99 {w : Int32} (hk : ¬ f_MO_known w = 0) (ho : (w &&& 127) = 99) : ¬ (16 : Int32) ≤ ((ushr w 15) &&& 31) := fun h => hk (by unfold f_MO_known; rw [ho]; simp [h])
theorem k1_3 {w : Int32} (hk : ¬ f_MO_known w = 0) (ho : (w &&& 127) = 3) : ¬ (16 : Int32) ≤ ((ushr w 15) &&& 31) := fun h => hk (by unfold f_MO_known; rw [ho]; simp [h])
theorem k1_35 {w : Int32} (hk : ¬ f_MO_known w = 0) (ho : (w &&& 127) = 35) : ¬ (16 : Int32) ≤ ((ushr w 15) &&& 31) := fun h => hk (by unfold f_MO_known; rw [ho]; simp [h])
theorem k1_19 {w : Int32} (hk : ¬ f_MO_known w = 0) (ho : (w &&& 127) = 19) : ¬ (16 : Int32) ≤ ((ushr w 15) &&& 31) := fun h => hk (by unfold f_MO_known; rw [ho]; simp [h])
theorem k1_51 {w : Int32} (hk : ¬ f_MO_known w = 0) (ho : (w &&& 127) = 51) : ¬ (16 : Int32) ≤ ((ushr w 15) &&& 31) := fun h => hk (by unfold f_MO_known; rw [ho]; simp [h])
theorem k2_99 {w : Int32} (hk : ¬ f_MO_known w = 0) (ho : (w &&& 127) = 99) : ¬ (16 : Int32) ≤ ((ushr w 20) &&& 31) := fun h => hk (by unfold f_MO_known; rw [ho]; simp [h])
theorem k2_35 {w : Int32} (hk : ¬ f_MO_known w = 0) (ho : (w &&& 127) = 35) : ¬ (16 : Int32) ≤ ((ushr w 20) &&& 31) := fun h => hk (by unfold f_MO_known; rw [ho]; simp [h])
theorem k2_51 {w : Int32} (hk : ¬ f_MO_known w = 0) (ho : (w &&& 127) = 51) : ¬ (16 : Int32) ≤ ((ushr w 20) &&& 31) := fun h => hk (by unfold f_MO_known; rw [ho]; simp [h])
theorem kf2 {w : Int32} (hk : ¬ f_MO_known w = 0) (ho : (w &&& 127) = 99) : ¬ ((ushr w 12) &&& 7) = 2 := fun h => hk (by unfold f_MO_known; rw [ho]; simp [h])
theorem kf3 {w : Int32} (hk : ¬ f_MO_known w = 0) (ho : (w &&& 127) = 99) : ¬ ((ushr w 12) &&& 7) = 3 := fun h => hk (by unfold f_MO_known; rw [ho]; simp [h])
theorem f8 (w : Int32) : vp_in ((ushr w 12) &&& 7) 8 := pk_andIn (ushr w 12) (m := 7) 3 (by decide) (by decide)
section SIM4
variable {a0 b0 a b : St} {p : Nat}
def Szx (a0 b0 : St) (p : Nat) (E F : Int32 × St) : Prop := E.1 = F.1 ∧ (E.1 = 0 → Re a0 b0 (some p) (up E.2 (iP p) 5 (E.2 1 6)) F.2) ∧ (¬ E.1 = 0 → Re a0 b0 (some p) E.2 F.2)
theorem S_getr {o : Option Nat} (h : Re a0 b0 o a b) (hp : p < 4) {z : Int32} (hz : ¬ (16 : Int32) ≤ (z &&& 31)) : f_PT_get p (z &&& 31) a = b 32 ((nI p * 16) + (z &&& 15)).toNatClampNeg := by
  rw [and1531 hz]; exact S_get h hp (zin hz)
theorem Szx_put (h : Re a0 b0 (some p) a b) (hp : p < 4) (hn : a 1 6 = b 36 p + 4) {y : Int32} (hy : vp_in y 16) (v : Int32) : Szx a0 b0 p (0, f_PT_put p y v a) (0, up (f_MO_put (nI p) y v b) 36 p (b 36 p + 4)) := by
  refine ⟨rfl, fun _ => ?_, fun e => absurd rfl e⟩
  show Re a0 b0 (some p) (up (f_PT_put p y v a) (iP p) 5 (f_PT_put p y v a 1 6)) _
  rw [put_row _ _ _ _ (by unfold iR; omega), hn]
  exact (S_put h hp hy).upP hp pm5 (by decide) (by decide)
theorem Szx_jump (h : Re a0 b0 (some p) a b) (hp : p < 4) {y : Int32} (hy : vp_in y 16) (n : Int32) : Szx a0 b0 p (f_MA_jump p y n a) (0, up (f_MO_put (nI p) y (b 36 p + 4) b) 36 p n) := by
  unfold f_MA_jump
  refine ⟨rfl, fun _ => ?_, fun e => absurd rfl e⟩
  show Re a0 b0 (some p) (up (up (f_PT_put p y (a (iP p) 5 + 4) a) 1 6 n) (iP p) 5 (up (f_PT_put p y (a (iP p) 5 + 4) a) 1 6 n 1 6)) _
  rw [up_at, if_pos ⟨rfl, rfl⟩, ← h.pt p 5 36 hp pm5]
  exact ((S_put h hp hy).upNext).upP hp pm5 (by decide) (by decide)
theorem Szx_q {E F : Int32 × St} (hp : p < 4) (hn : a 1 6 = b 36 p + 4) (hq : Sq a0 b0 a p E F) : Szx a0 b0 p (E.1, E.2) (if F.1 = 0 then (F.1, up F.2 36 p (b 36 p + 4)) else (F.1, F.2)) := by
  obtain ⟨h1, h2, h3⟩ := hq
  by_cases q : F.1 = 0
  · rw [if_pos q]
    refine ⟨h1, fun _ => ?_, fun e => absurd (h1.trans q) e⟩
    show Re a0 b0 (some p) (up E.2 (iP p) 5 (E.2 1 6)) _
    rw [h3, hn]
    exact h2.upP hp pm5 (by decide) (by decide)
  · rw [if_neg q]
    exact ⟨h1, fun e => absurd (h1.symm.trans e) q, fun _ => h2⟩
theorem S_exec (h : Re a0 b0 (some p) a b) (hp : p < 4) (w : Int32) (hk : ¬ f_MO_known w = 0) (hn : a 1 6 = a (iP p) 5 + 4) : Szx a0 b0 p (f_MA_execute p w a) (f_MO_perform (nI p) w b) := by
  have e5 : a (iP p) 5 = b 36 p := (h.pt p 5 36 hp pm5).symm
  have hn' : a 1 6 = b 36 p + 4 := by rw [hn, e5]
  unfold f_MA_execute f_MO_perform
  rw [knEq, if_neg hk, nIc hp]
  unfold f_CO_o
  by_cases ho : (w &&& 127) = 55
  · rw [if_neg (show ¬ (w &&& 127) = 3 by rw [ho]; decide), if_neg (show ¬ (w &&& 127) = 19 by rw [ho]; decide), if_neg (show ¬ (w &&& 127) = 23 by rw [ho]; decide), if_neg (show ¬ (w &&& 127) = 35 by rw [ho]; decide), if_neg (show ¬ (w &&& 127) = 51 by rw [ho]; decide), if_pos ho, if_pos ho]
    exact Szx_put h hp hn' (kd_55 hk ho) _
  have n55 := ho; clear ho
  by_cases ho : (w &&& 127) = 23
  · rw [if_neg (show ¬ (w &&& 127) = 3 by rw [ho]; decide), if_neg (show ¬ (w &&& 127) = 19 by rw [ho]; decide), if_pos ho, if_neg (show ¬ (w &&& 127) = 55 by rw [ho]; decide), if_pos ho]
    rw [e5]; exact Szx_put h hp hn' (kd_23 hk ho) _
  have n23 := ho; clear ho
  by_cases ho : (w &&& 127) = 111
  · rw [if_neg (show ¬ (w &&& 127) = 3 by rw [ho]; decide), if_neg (show ¬ (w &&& 127) = 19 by rw [ho]; decide), if_neg (show ¬ (w &&& 127) = 23 by rw [ho]; decide), if_neg (show ¬ (w &&& 127) = 35 by rw [ho]; decide), if_neg (show ¬ (w &&& 127) = 51 by rw [ho]; decide), if_neg (show ¬ (w &&& 127) = 55 by rw [ho]; decide), if_neg (show ¬ (w &&& 127) = 99 by rw [ho]; decide), if_neg (show ¬ (w &&& 127) = 103 by rw [ho]; decide), if_pos ho, if_neg (show ¬ (w &&& 127) = 55 by rw [ho]; decide), if_neg (show ¬ (w &&& 127) = 23 by rw [ho]; decide), if_pos ho]
    unfold f_CO_immediateJ; rw [imJ, e5]; exact Szx_jump h hp (kd_111 hk ho) _
  have n111 := ho; clear ho
  by_cases ho : (w &&& 127) = 103
  · rw [if_neg (show ¬ (w &&& 127) = 3 by rw [ho]; decide), if_neg (show ¬ (w &&& 127) = 19 by rw [ho]; decide), if_neg (show ¬ (w &&& 127) = 23 by rw [ho]; decide), if_neg (show ¬ (w &&& 127) = 35 by rw [ho]; decide), if_neg (show ¬ (w &&& 127) = 51 by rw [ho]; decide), if_neg (show ¬ (w &&& 127) = 55 by rw [ho]; decide), if_neg (show ¬ (w &&& 127) = 99 by rw [ho]; decide), if_pos ho, if_neg (show ¬ (w &&& 127) = 55 by rw [ho]; decide), if_neg (show ¬ (w &&& 127) = 23 by rw [ho]; decide), if_neg (show ¬ (w &&& 127) = 111 by rw [ho]; decide), if_pos ho]
    unfold f_CO_rs1; rw [S_getr h hp (k1_103 hk ho)]; exact Szx_jump h hp (kd_103 hk ho) _
  have n103 := ho; clear ho
  by_cases ho : (w &&& 127) = 99
  · rw [if_neg (show ¬ (w &&& 127) = 3 by rw [ho]; decide), if_neg (show ¬ (w &&& 127) = 19 by rw [ho]; decide), if_neg (show ¬ (w &&& 127) = 23 by rw [ho]; decide), if_neg (show ¬ (w &&& 127) = 35 by rw [ho]; decide), if_neg (show ¬ (w &&& 127) = 51 by rw [ho]; decide), if_neg (show ¬ (w &&& 127) = 55 by rw [ho]; decide), if_pos ho, if_neg (show ¬ (w &&& 127) = 55 by rw [ho]; decide), if_neg (show ¬ (w &&& 127) = 23 by rw [ho]; decide), if_neg (show ¬ (w &&& 127) = 111 by rw [ho]; decide), if_neg (show ¬ (w &&& 127) = 103 by rw [ho]; decide), if_pos ho]
    unfold f_CO_rs1 f_CO_rs2 f_CO_f f_CO_immediateB
    rw [S_getr h hp (k1_99 hk ho), S_getr h hp (k2_99 hk ho), goEq (f8 w) (kf2 hk ho) (kf3 hk ho)]
    by_cases q : f_MO_goes ((ushr w 12) &&& 7) (b i_register (((nI p * 16) + ((ushr w 15) &&& 15))).toNatClampNeg) (b i_register (((nI p * 16) + ((ushr w 20) &&& 15))).toNatClampNeg) = 0
    · rw [if_pos q, if_pos q]
      refine ⟨rfl, fun _ => ?_, fun e => absurd rfl e⟩
      show Re a0 b0 (some p) (up a (iP p) 5 (a 1 6)) _
      rw [hn']
      exact h.upP hp pm5 (by decide) (by decide)
    · rw [if_neg q, if_neg q, e5]
      refine ⟨rfl, fun _ => ?_, fun e => absurd rfl e⟩
      show Re a0 b0 (some p) (up (up a 1 6 _) (iP p) 5 (up a 1 6 _ 1 6)) _
      rw [up_at, if_pos ⟨rfl, rfl⟩]
      exact (h.upNext).upP hp pm5 (by decide) (by decide)
  have n99 := ho; clear ho
  by_cases ho : (w &&& 127) = 3
  · rw [if_pos ho, if_neg (show ¬ (w &&& 127) = 55 by rw [ho]; decide), if_neg (show ¬ (w &&& 127) = 23 by rw [ho]; decide), if_neg (show ¬ (w &&& 127) = 111 by rw [ho]; decide), if_neg (show ¬ (w &&& 127) = 103 by rw [ho]; decide), if_neg (show ¬ (w &&& 127) = 99 by rw [ho]; decide), if_pos ho]
    unfold f_CO_rs1; rw [S_getr h hp (k1_3 hk ho)]; exact Szx_q hp hn' (S_load h hp _ (kd_3 hk ho))
  have n3 := ho; clear ho
  by_cases ho : (w &&& 127) = 35
  · rw [if_neg (show ¬ (w &&& 127) = 3 by rw [ho]; decide), if_neg (show ¬ (w &&& 127) = 19 by rw [ho]; decide), if_neg (show ¬ (w &&& 127) = 23 by rw [ho]; decide), if_pos ho, if_neg (show ¬ (w &&& 127) = 55 by rw [ho]; decide), if_neg (show ¬ (w &&& 127) = 23 by rw [ho]; decide), if_neg (show ¬ (w &&& 127) = 111 by rw [ho]; decide), if_neg (show ¬ (w &&& 127) = 103 by rw [ho]; decide), if_neg (show ¬ (w &&& 127) = 99 by rw [ho]; decide), if_neg (show ¬ (w &&& 127) = 3 by rw [ho]; decide), if_pos ho]
    unfold f_CO_rs1 f_CO_rs2; rw [S_getr h hp (k1_35 hk ho), S_getr h hp (k2_35 hk ho)]; exact Szx_q hp hn' (S_store h hp _ _)
  have n35 := ho; clear ho
  by_cases ho : (w &&& 127) = 19
  · rw [if_neg (show ¬ (w &&& 127) = 3 by rw [ho]; decide), if_pos ho, if_neg (show ¬ (w &&& 127) = 55 by rw [ho]; decide), if_neg (show ¬ (w &&& 127) = 23 by rw [ho]; decide), if_neg (show ¬ (w &&& 127) = 111 by rw [ho]; decide), if_neg (show ¬ (w &&& 127) = 103 by rw [ho]; decide), if_neg (show ¬ (w &&& 127) = 99 by rw [ho]; decide), if_neg (show ¬ (w &&& 127) = 3 by rw [ho]; decide), if_neg (show ¬ (w &&& 127) = 35 by rw [ho]; decide), if_pos ho]
    unfold f_CO_rs1 f_CO_f f_CO_g f_CO_immediateI; rw [S_getr h hp (k1_19 hk ho), cbImm]; exact Szx_put h hp hn' (kd_19 hk ho) _
  have n19 := ho; clear ho
  by_cases ho : (w &&& 127) = 51
  · rw [if_neg (show ¬ (w &&& 127) = 3 by rw [ho]; decide), if_neg (show ¬ (w &&& 127) = 19 by rw [ho]; decide), if_neg (show ¬ (w &&& 127) = 23 by rw [ho]; decide), if_neg (show ¬ (w &&& 127) = 35 by rw [ho]; decide), if_pos ho, if_neg (show ¬ (w &&& 127) = 55 by rw [ho]; decide), if_neg (show ¬ (w &&& 127) = 23 by rw [ho]; decide), if_neg (show ¬ (w &&& 127) = 111 by rw [ho]; decide), if_neg (show ¬ (w &&& 127) = 103 by rw [ho]; decide), if_neg (show ¬ (w &&& 127) = 99 by rw [ho]; decide), if_neg (show ¬ (w &&& 127) = 3 by rw [ho]; decide), if_neg (show ¬ (w &&& 127) = 35 by rw [ho]; decide), if_neg (show ¬ (w &&& 127) = 19 by rw [ho]; decide), if_pos ho]
    unfold f_CO_rs1 f_CO_rs2 f_CO_f f_CO_g; rw [S_getr h hp (k1_51 hk ho), S_getr h hp (k2_51 hk ho), cbReg]; exact Szx_put h hp hn' (kd_51 hk ho) _
  have n51 := ho; clear ho
  rw [if_neg n3, if_neg n19, if_neg n23, if_neg n35, if_neg n51, if_neg n55, if_neg n99, if_neg n103, if_neg n111, if_neg n55, if_neg n23, if_neg n111, if_neg n103, if_neg n99, if_neg n3, if_neg n35, if_neg n19, if_neg n51]
  by_cases q : w = 115
  · rw [if_pos q, if_pos q]
    exact Szx_q hp hn' (S_calls h hp)
  · rw [if_neg q, if_neg q]
    exact ⟨rfl, fun e => absurd e (by show ¬ (4 : Int32) = 0; decide), fun _ => h⟩
theorem S_step (h : Re a0 b0 (some p) a b) (hp : p < 4) : Re a0 b0 (some p) (f_MA_step p a) (f_MO_step (nI p) b) := by
  unfold f_MA_step f_MO_step f_PT_noteBegun
  rw [nIc hp]
  have h1 : Re a0 b0 (some p) (up (up a (iP p) 13 (a (iP p) 13 + 1)) iMA 6 ((up a (iP p) 13 (a (iP p) 13 + 1)) (iP p) 5 + 4)) (up b i_begun p (b i_begun p + 1)) := by
    rw [show b i_begun p = a (iP p) 13 from h.pt p 13 40 hp pm13]
    exact (h.upP hp pm13 (by decide) (by decide)).upNext
  have hn : (up (up a (iP p) 13 (a (iP p) 13 + 1)) iMA 6 ((up a (iP p) 13 (a (iP p) 13 + 1)) (iP p) 5 + 4)) 1 6 = (up (up a (iP p) 13 (a (iP p) 13 + 1)) iMA 6 ((up a (iP p) 13 (a (iP p) 13 + 1)) (iP p) 5 + 4)) (iP p) 5 + 4 := by
    rw [up_at, if_pos ⟨rfl, rfl⟩, up_row (i := iMA) (show iP p ≠ iMA by unfold iP iMA; omega)]
  generalize up (up a (iP p) 13 (a (iP p) 13 + 1)) iMA 6 ((up a (iP p) 13 (a (iP p) 13 + 1)) (iP p) 5 + 4) = a1 at h1 hn ⊢
  generalize up b i_begun p (b i_begun p + 1) = b1 at h1 ⊢
  have e5 : a1 (iP p) 5 = b1 36 p := (h1.pt p 5 36 hp pm5).symm
  have e1 : a1 (iP p) 1 = b1 33 p := (h1.pt p 1 33 hp pm1).symm
  have hff : f_MA_fetchFault p a1 = (if (b1 36 p &&& 3) = 0 then ((if f_MO_inside (nI p) (b1 36 p) b1 = 0 then 3 else 0) : Int32) else 2) := by
    unfold f_MA_fetchFault
    rw [S_holds h1 hp, e5]
  by_cases c3 : (b1 36 p &&& 3) = 0
  · rw [if_pos c3] at hff
    rw [if_pos c3]
    by_cases ci : f_MO_inside (nI p) (b1 36 p) b1 = 0
    · rw [if_pos ci] at hff
      rw [if_pos ci, hff, if_neg (by decide)]
      exact S_fault h1 hp _
    · rw [if_neg ci] at hff
      have hw := ff_in h1.ic hp hff
      rw [if_neg ci, if_pos hff, ← h1.mem _ (vin_lt hw), e1, e5]
      generalize b1 30 (b1 33 p + b1 36 p / 4).toNatClampNeg = w
      by_cases hk : f_MO_known w = 0
      · rw [if_pos hk]
        have ex : f_MA_execute p w a1 = (1, a1) := by
          unfold f_MA_execute; rw [knEq, if_pos hk]
        rw [ex, if_neg (by show ¬ (1 : Int32) = 0; decide)]
        exact S_fault h1 hp _
      · rw [if_neg hk]
        obtain ⟨x1, x2, x3⟩ := S_exec h1 hp w hk hn
        by_cases q : (f_MO_perform (nI p) w b1).1 = 0
        · rw [if_pos q, if_pos (x1.trans q)]
          exact x2 (x1.trans q)
        · rw [if_neg q, if_neg (fun e => q (x1.symm.trans e)), x1]
          exact S_fault (x3 (fun e => q (x1.symm.trans e))) hp _
  · rw [if_neg c3] at hff
    rw [if_neg c3, hff, if_neg (by decide)]
    exact S_fault h1 hp _
end SIM4
