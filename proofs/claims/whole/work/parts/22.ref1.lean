section VZROWS2
variable {p : Program} {l : Launch} {e : Env} {R : Room} {s : State} {m : MethodId} {args : Array Value} {below : List Frame} {meth : Method} {c : Code} {D : va_G} {tys : List (ClassId × FieldType)} {A : Nat → Prop} {cc : ByteArray} {nL : Nat} {own : String} {rh : Nat → Nat} {rc : Nat → (Nat → Int32) → va_E} {n : Nat} {cells slots : Nat} {Q : State → Prop} {pc : Nat} {lv lv' : List (Nat × Value)} {st : List Value} {σ : St}
theorem v_zald (X : Cx p s m args meth c D tys A cc nL own) {i N t0 : Nat} {cA : ClassId} {j : Int32} (hi : i < n) (hr : ∀ f, rc i f = .inl (cA, N, .inl f)) (ht : tys[t0]? = some (cA, .boolean)) (hin : vp_in j N) (d : decode cc pc = .ok (.baload, 1)) (kk : Vz p l e R s m args below meth c D A nL rh rc n cells slots Q (pc + 1) lv (.int (σ i j.toNatClampNeg) :: st) σ) : Vz p l e R s m args below meth c D A nL rh rc n cells slots Q pc lv (.int j :: .ref (rh i) :: st) σ :=
  fun H locs ls hP hD hS hl => va_zald X.1 X.2.1 X.2.2.2.2.2.1 hP i t0 (by rw [wd_at hi, hr]) ht hin d (kk H locs ls hP hD hS hl)
theorem v_zast (X : Cx p s m args meth c D tys A cc nL own) {i N t0 : Nat} {cA : ClassId} {j x : Int32} (hz : x = 0 ∨ x = 1) (hi : i < n) (hr : ∀ f, rc i f = .inl (cA, N, .inl f)) (ht : tys[t0]? = some (cA, .boolean)) (hin : vp_in j N) (d : decode cc pc = .ok (.bastore, 1)) (kk : Vz p l e R s m args below meth c D A nL rh rc n cells slots Q (pc + 1) lv st (up σ i j.toNatClampNeg x)) : Vz p l e R s m args below meth c D A nL rh rc n cells slots Q pc lv (.int x :: .int j :: .ref (rh i) :: st) σ := by
  intro H locs ls hP hD hS hl
  refine va_zast X.1 X.2.1 X.2.2.2.2.2.1 hP hD hS i t0 (by rw [wd_at hi, hr]) ht hin d (fun H1 locs1 hP1 hD1 hS1 => ?_)
  have e9 : vp_nar .boolean x = x := by rcases hz with rfl | rfl <;> decide
  rw [e9, ← hr, wd_set] at hP1 hD1
  exact kk H1 locs1 ls hP1 hD1 hS1 hl
end VZROWS2
/-! what always holds of the reference's state -/
def Im (σ : St) : Prop := (∀ p, p < 4 → 0 ≤ (σ i_from p).toInt ∧ 0 ≤ (σ i_size p).toInt ∧ (σ i_size p).toInt ≤ 32 ∧ (σ i_from p).toInt + (σ i_size p).toInt ≤ 96) ∧ (0 ≤ (σ iMO 26).toInt ∧ (σ iMO 26).toInt ≤ 6) ∧ (0 ≤ (σ iMO 27).toInt ∧ (σ iMO 27).toInt < 6) ∧ (∀ w, w < 6 → 0 ≤ (σ i_owner w).toInt ∧ (σ i_owner w).toInt < 4) ∧ (¬ σ iMO 24 = 0 → 1 ≤ (σ iMO 26).toInt)
theorem Im.same {σ σ' : St} (h : Im σ) (h1 : σ' i_from = σ i_from) (h2 : σ' i_size = σ i_size) (h3 : σ' i_owner = σ i_owner) (h4 : σ' iMO 26 = σ iMO 26) (h5 : σ' iMO 27 = σ iMO 27) (h6 : σ' iMO 24 = σ iMO 24) : Im σ' := by
  unfold Im
  rw [h1, h2, h3, h4, h5, h6]
  exact h
theorem Im.row {σ : St} {i : Nat} {f : Nat → Int32} (h : Im σ) (hi : i ≠ 33 ∧ i ≠ 34 ∧ i ≠ 44 ∧ i ≠ 29) : Im (upr σ i f) :=
  h.same (upr_row (fun e => hi.1 e.symm)) (upr_row (fun e => hi.2.1 e.symm)) (upr_row (fun e => hi.2.2.1 e.symm)) (by rw [upr_row (fun e => hi.2.2.2 e.symm)]) (by rw [upr_row (fun e => hi.2.2.2 e.symm)]) (by rw [upr_row (fun e => hi.2.2.2 e.symm)])
theorem Im.upA {σ : St} {i k : Nat} {v : Int32} (h : Im σ) (hi : i ≠ 33 ∧ i ≠ 34 ∧ i ≠ 44 ∧ i ≠ 29) : Im (up σ i k v) := h.row hi
theorem Im.upMO {σ : St} {k : Nat} {v : Int32} (h : Im σ) (hk : k ≠ 24 ∧ k ≠ 26 ∧ k ≠ 27) : Im (up σ iMO k v) :=
  h.same (up_row (by decide)) (up_row (by decide)) (up_row (by decide)) (up_slot (fun e => hk.2.1 e.symm)) (up_slot (fun e => hk.2.2 e.symm)) (up_slot (fun e => hk.1 e.symm))
theorem im_ite {c : Prop} [Decidable c] {a b : St} (ha : c → Im a) (hb : ¬ c → Im b) : Im (if c then a else b) := by
  split
  · exact ha (by assumption)
  · exact hb (by assumption)
theorem im_ite2 {c : Prop} [Decidable c] {α : Type} {a b : α × St} (ha : c → Im a.2) (hb : ¬ c → Im b.2) : Im (if c then a else b).2 := by
  split
  · exact ha (by assumption)
  · exact hb (by assumption)
theorem vreg {p r : Int32} (hp : vp_in p 4) (hr : vp_in r 16) : vp_in (p * 16 + r) 64 := by
  obtain ⟨a, ha, rfl⟩ := vp_in_of hp (by decide)
  obtain ⟨b, hb, rfl⟩ := vp_in_of hr (by decide)
  rw [show (16 : Int32) = nI 16 from by decide, pk_mul, nI_add]
  exact vp_in_nI (by omega) (by decide)
theorem vimg {p r : Int32} (hp : vp_in p 4) (hr : vp_in r 32) : vp_in (p * 32 + r) 128 := by
  obtain ⟨a, ha, rfl⟩ := vp_in_of hp (by decide)
  obtain ⟨b, hb, rfl⟩ := vp_in_of hr (by decide)
  rw [show (32 : Int32) = nI 32 from by decide, pk_mul, nI_add]
  exact vp_in_nI (by omega) (by decide)
theorem mf_MO_below : MF yX8_below cX8_below 3 (some .boolean) 2 := ⟨gw_of (by decide +kernel) rfl, gw_of (by decide +kernel) rfl, by decide +kernel, by decide +kernel, by decide +kernel⟩
theorem mf_MO_mix : MF yX8_mix cX8_mix 4 (some .int) 2 := ⟨gw_of (by decide +kernel) rfl, gw_of (by decide +kernel) rfl, by decide +kernel, by decide +kernel, by decide +kernel⟩
theorem wf_MO_100 : Cond.fieldLink RX8 100 RX8 "windows" "I" ∈ gw := gw_of (by decide +kernel) rfl
theorem wf_MO_103 : Cond.fieldLink RX8 103 RX8 "boots" "I" ∈ gw := gw_of (by decide +kernel) rfl
theorem wf_MO_106 : Cond.fieldLink RX8 106 RX8 "log" "I" ∈ gw := gw_of (by decide +kernel) rfl
theorem wf_MO_109 : Cond.fieldLink RX8 109 RX8 "time" "I" ∈ gw := gw_of (by decide +kernel) rfl
theorem wf_MO_112 : Cond.fieldLink RX8 112 RX8 "at" "I" ∈ gw := gw_of (by decide +kernel) rfl
theorem wf_MO_115 : Cond.fieldLink RX8 115 RX8 "left" "I" ∈ gw := gw_of (by decide +kernel) rfl
theorem wf_MO_121 : Cond.fieldLink RX8 121 RX8 "opened" "I" ∈ gw := gw_of (by decide +kernel) rfl
theorem wf_MO_16 : Cond.fieldLink RX8 16 RX8 "register" "[I" ∈ gw := gw_of (by decide +kernel) rfl
theorem wf_MO_22 : Cond.fieldLink RX8 22 RX8 "size" "[I" ∈ gw := gw_of (by decide +kernel) rfl
theorem wf_MO_28 : Cond.fieldLink RX8 28 RX8 "pc" "[I" ∈ gw := gw_of (by decide +kernel) rfl
theorem wf_MO_80 : Cond.fieldLink RX8 80 RX8 "secret" "I" ∈ gw := gw_of (by decide +kernel) rfl
theorem wf_MO_84 : Cond.fieldLink RX8 84 RX8 "thrown" "I" ∈ gw := gw_of (by decide +kernel) rfl
theorem wf_MO_88 : Cond.fieldLink RX8 88 RX8 "booted" "Z" ∈ gw := gw_of (by decide +kernel) rfl
theorem wi_MO_below : Cond.instanceMethod yX8_below ∈ gw := gw_of (by decide +kernel) rfl
theorem wi_MO_mix : Cond.instanceMethod yX8_mix ∈ gw := gw_of (by decide +kernel) rfl
theorem wk_MO_132 : Cond.constant RX8 132 (-2147483648) ∈ gw := gw_of (by decide +kernel) rfl
theorem wk_MO_136 : Cond.constant RX8 136 (1048691) ∈ gw := gw_of (by decide +kernel) rfl
theorem wk_MO_87 : Cond.constant RX8 87 (-1640531535) ∈ gw := gw_of (by decide +kernel) rfl
theorem wl_MO_below : Cond.selects yX8_below.cls yX8_below yX8_below ∈ gw := gw_of (by decide +kernel) rfl
theorem wl_MO_mix : Cond.selects yX8_mix.cls yX8_mix yX8_mix ∈ gw := gw_of (by decide +kernel) rfl
theorem wm_MO_128 : Cond.methodLink RX8 128 yX8_mix ∈ gw := gw_of (by decide +kernel) rfl
theorem wm_MO_133 : Cond.methodLink RX8 133 yX8_below ∈ gw := gw_of (by decide +kernel) rfl
section CLS
variable {l : Launch} {D : va_G} {rh : Nat → Nat} {cA : Nat → ClassId}
def f_MO_thrown (σ : St) : Int32 :=
  (σ iMO 33)
set_option maxHeartbeats 4000000 in
set_option maxRecDepth 100000 in
theorem c_MO_thrown  (σ : St) : CI l D (tyL cA) rh (rcW rh cA) NW yX8_thrown cX8_thrown 1 .int 0 [.ref (rh iMO)] σ (f_MO_thrown σ) σ := by
  refine CI.of rfl (Nat.le_of_ble_eq_true rfl) rfl ?_
  intro p9 e s m args below meth c A Q X hend
  refine v_lv (lv' := [(0, .ref (rh iMO))]) [0] rfl ?_
  refine v_aload_n X 0 dX8_thrown_0 rfl rfl ?_
  refine v_getI (i := iMO) (k := 33) X (lt_MO ) (sh_MO ) rfl in_MO (by decide) wf_MO_84 rfl (fun _ => rfl) dX8_thrown_1 ?_
  have e9 : f_MO_thrown σ = (σ iMO 33) := by simp only [f_MO_thrown]
  exact v_endI hend dX8_thrown_4 e9 rfl
def f_MO_mix (xa : Int32) (xb : Int32) : Int32 :=
  ((((xa * 31) + xb) * (-1640531535)) ^^^ (ushr (((xa * 31) + xb) * (-1640531535)) 15))
set_option maxHeartbeats 4000000 in
set_option maxRecDepth 100000 in
theorem c_MO_mix (xa : Int32) (xb : Int32) (σ : St) : CI l D (tyL cA) rh (rcW rh cA) NW yX8_mix cX8_mix 4 .int 0 [.ref (rh iMO), .int xa, .int xb] σ (f_MO_mix xa xb) σ := by
  refine CI.of rfl (Nat.le_of_ble_eq_true rfl) rfl ?_
  intro p9 e s m args below meth c A Q X hend
  refine v_lv (lv' := [(0, .ref (rh iMO)), (1, .int xa), (2, .int xb)]) [0, 1, 2] rfl ?_
  refine v_iload_n X 1 dX8_mix_0 rfl rfl ?_
  refine v_bipush (v := 31) X dX8_mix_1 (by decide) ?_
  refine v_imul X dX8_mix_3 ?_
  refine v_iload_n X 2 dX8_mix_4 rfl rfl ?_
  refine v_iadd X dX8_mix_5 ?_
  refine v_ldc (v := (-1640531535)) X wk_MO_87 dX8_mix_6 ?_
  refine v_imul X dX8_mix_8 ?_
  refine v_istore_n (lv' := [(3, .int (((xa * 31) + xb) * (-1640531535))), (0, .ref (rh iMO)), (1, .int xa), (2, .int xb)]) X dX8_mix_9 rfl (by decide) rfl ?_
  refine v_iload_n X 0 dX8_mix_10 rfl rfl ?_
  refine v_iload_n X 0 dX8_mix_11 rfl rfl ?_
  refine v_bipush (v := 15) X dX8_mix_12 (by decide) ?_
  refine v_iushr X dX8_mix_14 ?_
  refine v_ixor X dX8_mix_15 ?_
  have e9 : f_MO_mix xa xb = ((((xa * 31) + xb) * (-1640531535)) ^^^ (ushr (((xa * 31) + xb) * (-1640531535)) 15)) := by simp only [f_MO_mix]
  exact v_endI hend dX8_mix_16 e9 rfl
def f_MO_no (xa : Int32) (xb : Int32) : Int32 :=
  ((if xa < 0 then 1 else (if xa ≤ xb then 0 else 1)) : Int32)
theorem z_MO_no (xa : Int32) (xb : Int32) : (f_MO_no xa xb) = 0 ∨ (f_MO_no xa xb) = 1 := by
  unfold f_MO_no
  repeat' first | with_reducible apply z_ite | with_reducible exact Or.inl rfl | with_reducible exact Or.inr rfl | split
set_option maxHeartbeats 4000000 in
set_option maxRecDepth 100000 in
theorem c_MO_no (xa : Int32) (xb : Int32) (σ : St) : CI l D (tyL cA) rh (rcW rh cA) NW yX8_no cX8_no 3 .boolean 0 [.ref (rh iMO), .int xa, .int xb] σ (f_MO_no xa xb) σ := by
  refine CI.of rfl (Nat.le_of_ble_eq_true rfl) (zN (z_MO_no ..)) ?_
  intro p9 e s m args below meth c A Q X hend
  refine v_lv (lv' := [(0, .ref (rh iMO)), (1, .int xa), (2, .int xb)]) [0, 1, 2] rfl ?_
  refine v_iload_n X 1 dX8_no_0 rfl rfl ?_
  refine v_suff (pc2 := 14) (lv2 := [(0, .ref (rh iMO)), (1, .int xa), (2, .int xb)]) (st2 := [.int ((if xa < 0 then 1 else (if xa ≤ xb then 0 else 1)) : Int32)]) (σ2 := σ) ?_ (fun J1 => ?_)
  rotate_left
  ·
    refine v_if_lt X 9 dX8_no_1 (by decide) (fun h1 => ?_) (fun h1 => ?_)
    ·
      refine v_iconst (v := 1) X dX8_no_9 (by decide) ?_
      refine v_goto (tgt := 14) X dX8_no_10 (by decide) ?_
      have e9 : (((if xa < 0 then 1 else (if xa ≤ xb then 0 else 1)) : Int32) : Int32) = 1 := by simp only [if_pos h1]
      rw [e9] at J1
      exact J1
    ·
      refine v_iload_n X 1 dX8_no_4 rfl rfl ?_
      refine v_iload_n X 2 dX8_no_5 rfl rfl ?_
      refine v_icmp_le X 13 dX8_no_6 (by decide) (fun h6 => ?_) (fun h6 => ?_)
      ·
        refine v_iconst (v := 0) X dX8_no_13 (by decide) ?_
        have e9 : (((if xa < 0 then 1 else (if xa ≤ xb then 0 else 1)) : Int32) : Int32) = 0 := by simp only [if_neg h1, if_pos h6]
        rw [e9] at J1
        exact J1
      ·
        refine v_iconst (v := 1) X dX8_no_9 (by decide) ?_
        refine v_goto (tgt := 14) X dX8_no_10 (by decide) ?_
        have e9 : (((if xa < 0 then 1 else (if xa ≤ xb then 0 else 1)) : Int32) : Int32) = 1 := by simp only [if_neg h1, if_neg h6]
        rw [e9] at J1
        exact J1
  have e9 : f_MO_no xa xb = ((if xa < 0 then 1 else (if xa ≤ xb then 0 else 1)) : Int32) := by simp only [f_MO_no]
  exact v_endI hend dX8_no_14 e9 rfl
def f_MO_set (xa : Int32) (σ : St) : Int32 × St :=
  (((if ((up σ iMO 33 ((if xa = 0 then (if (σ iMO 24) = 0 then 0 else 2) else 1) : Int32)) iMO 33) = 0 then 1 else 0) : Int32), (up σ iMO 33 ((if xa = 0 then (if (σ iMO 24) = 0 then 0 else 2) else 1) : Int32)))
theorem z_MO_set (xa : Int32) (σ : St) : (f_MO_set xa σ).1 = 0 ∨ (f_MO_set xa σ).1 = 1 := by
  unfold f_MO_set
  repeat' first | with_reducible apply z_ite | with_reducible exact Or.inl rfl | with_reducible exact Or.inr rfl | split
set_option maxHeartbeats 4000000 in
set_option maxRecDepth 100000 in
theorem c_MO_set (xa : Int32) (σ : St) : CI l D (tyL cA) rh (rcW rh cA) NW yX8_set cX8_set 2 .boolean 0 [.ref (rh iMO), .int xa] σ (f_MO_set xa σ).1 (f_MO_set xa σ).2 := by
  refine CI.of rfl (Nat.le_of_ble_eq_true rfl) (zN (z_MO_set ..)) ?_
  intro p9 e s m args below meth c A Q X hend
  refine v_lv (lv' := [(0, .ref (rh iMO)), (1, .int xa)]) [0, 1] rfl ?_
  refine v_aload_n X 0 dX8_set_0 rfl rfl ?_
  refine v_iload_n X 1 dX8_set_1 rfl rfl ?_
  refine v_suff (pc2 := 21) (lv2 := [(0, .ref (rh iMO)), (1, .int xa)]) (st2 := [.int ((if xa = 0 then (if (σ iMO 24) = 0 then 0 else 2) else 1) : Int32), .ref (rh iMO)]) (σ2 := σ) ?_ (fun J2 => ?_)
  rotate_left
  ·
    refine v_if_eq X 9 dX8_set_2 (by decide) (fun h2 => ?_) (fun h2 => ?_)
    ·
      refine v_aload_n X 0 dX8_set_9 rfl rfl ?_
      refine v_getI (i := iMO) (k := 24) X (lt_MO ) (sh_MO ) rfl in_MO (by decide) wf_MO_88 rfl (fun _ => rfl) dX8_set_10 ?_
      refine v_if_eq X 20 dX8_set_13 (by decide) (fun h13 => ?_) (fun h13 => ?_)
      ·
        refine v_iconst (v := 0) X dX8_set_20 (by decide) ?_
        have e9 : (((if xa = 0 then (if (σ iMO 24) = 0 then 0 else 2) else 1) : Int32) : Int32) = 0 := by simp only [if_pos h2, if_pos h13]
        rw [e9] at J2
        exact J2
      ·
        refine v_iconst (v := 2) X dX8_set_16 (by decide) ?_
        refine v_goto (tgt := 21) X dX8_set_17 (by decide) ?_
        have e9 : (((if xa = 0 then (if (σ iMO 24) = 0 then 0 else 2) else 1) : Int32) : Int32) = 2 := by simp only [if_pos h2, if_neg h13]
        rw [e9] at J2
        exact J2
    ·
      refine v_iconst (v := 1) X dX8_set_5 (by decide) ?_
      refine v_goto (tgt := 21) X dX8_set_6 (by decide) ?_
      have e9 : (((if xa = 0 then (if (σ iMO 24) = 0 then 0 else 2) else 1) : Int32) : Int32) = 1 := by simp only [if_neg h2]
      rw [e9] at J2
      exact J2
  refine v_put (i := iMO) (k := 33) (x := ((if xa = 0 then (if (σ iMO 24) = 0 then 0 else 2) else 1) : Int32)) (ty := .int) X (lt_MO ) (sh_MO ) rfl in_MO (by decide) tyX8 tyX8_ok nX8 wf_MO_84 rfl rfl rfl rfl rfl (fun _ => Nat.le_of_ble_eq_true rfl) (fun _ _ => rfl) dX8_set_21 ?_
  generalize hg21 : (up σ iMO 33 ((if xa = 0 then (if (σ iMO 24) = 0 then 0 else 2) else 1) : Int32)) = g21
  refine v_aload_n X 0 dX8_set_24 rfl rfl ?_
  refine v_getI (i := iMO) (k := 33) X (lt_MO ) (sh_MO ) rfl in_MO (by decide) wf_MO_84 rfl (fun _ => rfl) dX8_set_25 ?_
  refine v_suff (pc2 := 36) (lv2 := [(0, .ref (rh iMO)), (1, .int xa)]) (st2 := [.int ((if (g21 iMO 33) = 0 then 1 else 0) : Int32)]) (σ2 := g21) ?_ (fun J28 => ?_)
  rotate_left
  ·
    refine v_if_ne X 35 dX8_set_28 (by decide) (fun h28 => ?_) (fun h28 => ?_)
    ·
      refine v_iconst (v := 0) X dX8_set_35 (by decide) ?_
      have e9 : (((if (g21 iMO 33) = 0 then 1 else 0) : Int32) : Int32) = 0 := by simp only [if_neg h28]
      rw [e9] at J28
      exact J28
    ·
      refine v_iconst (v := 1) X dX8_set_31 (by decide) ?_
      refine v_goto (tgt := 36) X dX8_set_32 (by decide) ?_
      have e9 : (((if (g21 iMO 33) = 0 then 1 else 0) : Int32) : Int32) = 1 := by simp only [if_pos h28]
      rw [e9] at J28
      exact J28
  have e9 : f_MO_set xa σ = (((if (g21 iMO 33) = 0 then 1 else 0) : Int32), g21) := by subst hg21; simp only [f_MO_set]
  exact v_endI hend dX8_set_36 (by rw [e9]) (by rw [e9])
theorem I_MO_set (xa : Int32) {σ : St} (hI : Im σ) : Im (f_MO_set xa σ).2 := by
  unfold f_MO_set
  exact (Im.upMO hI (by decide))
def f_MO_below (xa : Int32) (xb : Int32) : Int32 :=
  ((if (xb + (-2147483648)) ≤ (xa + (-2147483648)) then 0 else 1) : Int32)
theorem z_MO_below (xa : Int32) (xb : Int32) : (f_MO_below xa xb) = 0 ∨ (f_MO_below xa xb) = 1 := by
  unfold f_MO_below
  repeat' first | with_reducible apply z_ite | with_reducible exact Or.inl rfl | with_reducible exact Or.inr rfl | split
set_option maxHeartbeats 4000000 in
set_option maxRecDepth 100000 in
theorem c_MO_below (xa : Int32) (xb : Int32) (σ : St) : CI l D (tyL cA) rh (rcW rh cA) NW yX8_below cX8_below 3 .boolean 0 [.ref (rh iMO), .int xa, .int xb] σ (f_MO_below xa xb) σ := by
  refine CI.of rfl (Nat.le_of_ble_eq_true rfl) (zN (z_MO_below ..)) ?_
  intro p9 e s m args below meth c A Q X hend
  refine v_lv (lv' := [(0, .ref (rh iMO)), (1, .int xa), (2, .int xb)]) [0, 1, 2] rfl ?_
  refine v_iload_n X 1 dX8_below_0 rfl rfl ?_
  refine v_ldc (v := (-2147483648)) X wk_MO_132 dX8_below_1 ?_
  refine v_iadd X dX8_below_3 ?_
  refine v_iload_n X 2 dX8_below_4 rfl rfl ?_
  refine v_ldc (v := (-2147483648)) X wk_MO_132 dX8_below_5 ?_
  refine v_iadd X dX8_below_7 ?_
  refine v_suff (pc2 := 16) (lv2 := [(0, .ref (rh iMO)), (1, .int xa), (2, .int xb)]) (st2 := [.int ((if (xb + (-2147483648)) ≤ (xa + (-2147483648)) then 0 else 1) : Int32)]) (σ2 := σ) ?_ (fun J8 => ?_)
  rotate_left
  ·
    refine v_icmp_ge X 15 dX8_below_8 (by decide) (fun h8 => ?_) (fun h8 => ?_)
    ·
      refine v_iconst (v := 0) X dX8_below_15 (by decide) ?_
      have e9 : (((if (xb + (-2147483648)) ≤ (xa + (-2147483648)) then 0 else 1) : Int32) : Int32) = 0 := by simp only [if_pos h8]
      rw [e9] at J8
      exact J8
    ·
      refine v_iconst (v := 1) X dX8_below_11 (by decide) ?_
      refine v_goto (tgt := 16) X dX8_below_12 (by decide) ?_
      have e9 : (((if (xb + (-2147483648)) ≤ (xa + (-2147483648)) then 0 else 1) : Int32) : Int32) = 1 := by simp only [if_neg h8]
      rw [e9] at J8
      exact J8
  have e9 : f_MO_below xa xb = ((if (xb + (-2147483648)) ≤ (xa + (-2147483648)) then 0 else 1) : Int32) := by simp only [f_MO_below]
  exact v_endI hend dX8_below_16 e9 rfl
def f_MO_sum (xa : Int32) (xb : Int32) (xc : Int32) (xd : Int32) : Int32 :=
  (if xa = 0 then ((if xd = 0 then (xb + xc) else (xb - xc)) : Int32) else (if xa = 1 then (shl xb xc) else (if xa = 2 then ((if xc ≤ xb then 0 else 1) : Int32) else (if xa = 3 then ((if (f_MO_below xb xc) = 0 then 0 else 1) : Int32) else (if xa = 4 then (xb ^^^ xc) else (if xa = 5 then ((if xd = 0 then (ushr xb xc) else (sshr xb xc)) : Int32) else (if xa = 6 then (xb ||| xc) else (xb &&& xc))))))))
set_option maxHeartbeats 4000000 in
set_option maxRecDepth 100000 in
theorem c_MO_sum (xa : Int32) (xb : Int32) (xc : Int32) (xd : Int32) (σ : St) : CI l D (tyL cA) rh (rcW rh cA) NW yX8_sum cX8_sum 5 .int 1 [.ref (rh iMO), .int xa, .int xb, .int xc, .int xd] σ (f_MO_sum xa xb xc xd) σ := by
  refine CI.of rfl (Nat.le_of_ble_eq_true rfl) rfl ?_
  intro p9 e s m args below meth c A Q X hend
  refine v_lv (lv' := [(0, .ref (rh iMO)), (1, .int xa), (2, .int xb), (3, .int xc), (4, .int xd)]) [0, 1, 2, 3, 4] rfl ?_
  refine v_iload_n X 1 dX8_sum_0 rfl rfl ?_
  by_cases h1_0 : xa = 0
  ·
    refine v_tswI (off := 43) X 0 44 h1_0 dX8_sum_1 (by decide) (by decide) ?_
    refine v_iload X 4 dX8_sum_44 rfl ?_
    refine v_suff (pc2 := 58) (lv2 := [(0, .ref (rh iMO)), (1, .int xa), (2, .int xb), (3, .int xc), (4, .int xd)]) (st2 := [.int ((if xd = 0 then (xb + xc) else (xb - xc)) : Int32)]) (σ2 := σ) ?_ (fun J46 => ?_)
    rotate_left
    ·
      refine v_if_eq X 55 dX8_sum_46 (by decide) (fun h46 => ?_) (fun h46 => ?_)
      ·
        refine v_iload_n X 2 dX8_sum_55 rfl rfl ?_
        refine v_iload_n X 3 dX8_sum_56 rfl rfl ?_
        refine v_iadd X dX8_sum_57 ?_
        have e9 : (((if xd = 0 then (xb + xc) else (xb - xc)) : Int32) : Int32) = (xb + xc) := by simp only [if_pos h46]
        rw [e9] at J46
        exact J46
      ·
        refine v_iload_n X 2 dX8_sum_49 rfl rfl ?_
        refine v_iload_n X 3 dX8_sum_50 rfl rfl ?_
        refine v_isub X dX8_sum_51 ?_
        refine v_goto (tgt := 58) X dX8_sum_52 (by decide) ?_
        have e9 : (((if xd = 0 then (xb + xc) else (xb - xc)) : Int32) : Int32) = (xb - xc) := by simp only [if_neg h46]
        rw [e9] at J46
        exact J46
    have e9 : f_MO_sum xa xb xc xd = ((if xd = 0 then (xb + xc) else (xb - xc)) : Int32) := by simp only [f_MO_sum, if_pos h1_0]
    exact v_endI hend dX8_sum_58 e9 rfl
  by_cases h1_1 : xa = 1
  ·
    refine v_tswI (off := 58) X 1 59 h1_1 dX8_sum_1 (by decide) (by decide) ?_
    refine v_iload_n X 2 dX8_sum_59 rfl rfl ?_
    refine v_iload_n X 3 dX8_sum_60 rfl rfl ?_
    refine v_ishl X dX8_sum_61 ?_
    have e9 : f_MO_sum xa xb xc xd = (shl xb xc) := by simp only [f_MO_sum, if_neg h1_0, if_pos h1_1]
    exact v_endI hend dX8_sum_62 e9 rfl
  by_cases h1_2 : xa = 2
  ·
    refine v_tswI (off := 62) X 2 63 h1_2 dX8_sum_1 (by decide) (by decide) ?_
    refine v_iload_n X 2 dX8_sum_63 rfl rfl ?_
    refine v_iload_n X 3 dX8_sum_64 rfl rfl ?_
    refine v_suff (pc2 := 73) (lv2 := [(0, .ref (rh iMO)), (1, .int xa), (2, .int xb), (3, .int xc), (4, .int xd)]) (st2 := [.int ((if xc ≤ xb then 0 else 1) : Int32)]) (σ2 := σ) ?_ (fun J65 => ?_)
    rotate_left
    ·
      refine v_icmp_ge X 72 dX8_sum_65 (by decide) (fun h65 => ?_) (fun h65 => ?_)
      ·
        refine v_iconst (v := 0) X dX8_sum_72 (by decide) ?_
        have e9 : (((if xc ≤ xb then 0 else 1) : Int32) : Int32) = 0 := by simp only [if_pos h65]
        rw [e9] at J65
        exact J65
      ·
        refine v_iconst (v := 1) X dX8_sum_68 (by decide) ?_
        refine v_goto (tgt := 73) X dX8_sum_69 (by decide) ?_
        have e9 : (((if xc ≤ xb then 0 else 1) : Int32) : Int32) = 1 := by simp only [if_neg h65]
        rw [e9] at J65
        exact J65
    have e9 : f_MO_sum xa xb xc xd = ((if xc ≤ xb then 0 else 1) : Int32) := by simp only [f_MO_sum, if_neg h1_0, if_neg h1_1, if_pos h1_2]
    exact v_endI hend dX8_sum_73 e9 rfl
  by_cases h1_3 : xa = 3
  ·
    refine v_tswI (off := 73) X 3 74 h1_3 dX8_sum_1 (by decide) (by decide) ?_
    refine v_aload_n X 0 dX8_sum_74 rfl rfl ?_
    refine v_iload_n X 2 dX8_sum_75 rfl rfl ?_
    refine v_iload_n X 3 dX8_sum_76 rfl rfl ?_
    refine v_callV_CI (rest := []) X [.int xb, .int xc] (c_MO_below xb xc σ ) mf_MO_below wi_MO_below wl_MO_below (lt_MO ) (sh_MO ) rfl wm_MO_133 rfl ⟨by decide, by decide⟩ (Nat.le_of_ble_eq_true rfl) ⟨by decide, by decide⟩ dX8_sum_77 ?_
    refine v_suff (pc2 := 88) (lv2 := [(0, .ref (rh iMO)), (1, .int xa), (2, .int xb), (3, .int xc), (4, .int xd)]) (st2 := [.int ((if (f_MO_below xb xc) = 0 then 0 else 1) : Int32)]) (σ2 := σ) ?_ (fun J80 => ?_)
    rotate_left
    ·
      refine v_if_eq X 87 dX8_sum_80 (by decide) (fun h80 => ?_) (fun h80 => ?_)
      ·
        refine v_iconst (v := 0) X dX8_sum_87 (by decide) ?_
        have e9 : (((if (f_MO_below xb xc) = 0 then 0 else 1) : Int32) : Int32) = 0 := by simp only [if_pos h80]
        rw [e9] at J80
        exact J80
      ·
        refine v_iconst (v := 1) X dX8_sum_83 (by decide) ?_
        refine v_goto (tgt := 88) X dX8_sum_84 (by decide) ?_
        have e9 : (((if (f_MO_below xb xc) = 0 then 0 else 1) : Int32) : Int32) = 1 := by simp only [if_neg h80]
        rw [e9] at J80
        exact J80
    have e9 : f_MO_sum xa xb xc xd = ((if (f_MO_below xb xc) = 0 then 0 else 1) : Int32) := by simp only [f_MO_sum, if_neg h1_0, if_neg h1_1, if_neg h1_2, if_pos h1_3]
    exact v_endI hend dX8_sum_88 e9 rfl
  by_cases h1_4 : xa = 4
  ·
    refine v_tswI (off := 88) X 4 89 h1_4 dX8_sum_1 (by decide) (by decide) ?_
    refine v_iload_n X 2 dX8_sum_89 rfl rfl ?_
    refine v_iload_n X 3 dX8_sum_90 rfl rfl ?_
    refine v_ixor X dX8_sum_91 ?_
    have e9 : f_MO_sum xa xb xc xd = (xb ^^^ xc) := by simp only [f_MO_sum, if_neg h1_0, if_neg h1_1, if_neg h1_2, if_neg h1_3, if_pos h1_4]
    exact v_endI hend dX8_sum_92 e9 rfl
  by_cases h1_5 : xa = 5
  ·
    refine v_tswI (off := 92) X 5 93 h1_5 dX8_sum_1 (by decide) (by decide) ?_
    refine v_iload X 4 dX8_sum_93 rfl ?_
    refine v_suff (pc2 := 107) (lv2 := [(0, .ref (rh iMO)), (1, .int xa), (2, .int xb), (3, .int xc), (4, .int xd)]) (st2 := [.int ((if xd = 0 then (ushr xb xc) else (sshr xb xc)) : Int32)]) (σ2 := σ) ?_ (fun J95 => ?_)
    rotate_left
    ·
      refine v_if_eq X 104 dX8_sum_95 (by decide) (fun h95 => ?_) (fun h95 => ?_)
      ·
        refine v_iload_n X 2 dX8_sum_104 rfl rfl ?_
        refine v_iload_n X 3 dX8_sum_105 rfl rfl ?_
        refine v_iushr X dX8_sum_106 ?_
        have e9 : (((if xd = 0 then (ushr xb xc) else (sshr xb xc)) : Int32) : Int32) = (ushr xb xc) := by simp only [if_pos h95]
        rw [e9] at J95
        exact J95
      ·
        refine v_iload_n X 2 dX8_sum_98 rfl rfl ?_
        refine v_iload_n X 3 dX8_sum_99 rfl rfl ?_
        refine v_ishr X dX8_sum_100 ?_
        refine v_goto (tgt := 107) X dX8_sum_101 (by decide) ?_
        have e9 : (((if xd = 0 then (ushr xb xc) else (sshr xb xc)) : Int32) : Int32) = (sshr xb xc) := by simp only [if_neg h95]
        rw [e9] at J95
        exact J95
    have e9 : f_MO_sum xa xb xc xd = ((if xd = 0 then (ushr xb xc) else (sshr xb xc)) : Int32) := by simp only [f_MO_sum, if_neg h1_0, if_neg h1_1, if_neg h1_2, if_neg h1_3, if_neg h1_4, if_pos h1_5]
    exact v_endI hend dX8_sum_107 e9 rfl
  by_cases h1_6 : xa = 6
  ·
    refine v_tswI (off := 107) X 6 108 h1_6 dX8_sum_1 (by decide) (by decide) ?_
    refine v_iload_n X 2 dX8_sum_108 rfl rfl ?_
    refine v_iload_n X 3 dX8_sum_109 rfl rfl ?_
    refine v_ior X dX8_sum_110 ?_
    have e9 : f_MO_sum xa xb xc xd = (xb ||| xc) := by simp only [f_MO_sum, if_neg h1_0, if_neg h1_1, if_neg h1_2, if_neg h1_3, if_neg h1_4, if_neg h1_5, if_pos h1_6]
    exact v_endI hend dX8_sum_111 e9 rfl
  refine v_tswO X 112 dX8_sum_1 (by have g0 := lv_neT (a := 0) h1_0 (by decide); have g1 := lv_neT (a := 1) h1_1 (by decide); have g2 := lv_neT (a := 2) h1_2 (by decide); have g3 := lv_neT (a := 3) h1_3 (by decide); have g4 := lv_neT (a := 4) h1_4 (by decide); have g5 := lv_neT (a := 5) h1_5 (by decide); have g6 := lv_neT (a := 6) h1_6 (by decide); omega) (by decide) ?_
  refine v_iload_n X 2 dX8_sum_112 rfl rfl ?_
  refine v_iload_n X 3 dX8_sum_113 rfl rfl ?_
  refine v_iand X dX8_sum_114 ?_
  have e9 : f_MO_sum xa xb xc xd = (xb &&& xc) := by simp only [f_MO_sum, if_neg h1_0, if_neg h1_1, if_neg h1_2, if_neg h1_3, if_neg h1_4, if_neg h1_5, if_neg h1_6]
  exact v_endI hend dX8_sum_115 e9 rfl
def f_MO_goes (xa : Int32) (xb : Int32) (xc : Int32) : Int32 :=
  ((if ((if 2 ≤ xa then (if 6 ≤ xa then (f_MO_below xb xc) else (if xc ≤ xb then 0 else 1)) else (if xb = xc then 1 else 0)) : Int32) = ((if (xa - xa / 2 * 2) = 0 then 1 else 0) : Int32) then 1 else 0) : Int32)
theorem z_MO_goes (xa : Int32) (xb : Int32) (xc : Int32) : (f_MO_goes xa xb xc) = 0 ∨ (f_MO_goes xa xb xc) = 1 := by
  unfold f_MO_goes
  repeat' first | with_reducible apply z_ite | with_reducible exact z_MO_below .. | with_reducible exact Or.inl rfl | with_reducible exact Or.inr rfl | split
set_option maxHeartbeats 4000000 in
set_option maxRecDepth 100000 in
theorem c_MO_goes (xa : Int32) (xb : Int32) (xc : Int32) (σ : St) : CI l D (tyL cA) rh (rcW rh cA) NW yX8_goes cX8_goes 5 .boolean 1 [.ref (rh iMO), .int xa, .int xb, .int xc] σ (f_MO_goes xa xb xc) σ := by
  refine CI.of rfl (Nat.le_of_ble_eq_true rfl) (zN (z_MO_goes ..)) ?_
  intro p9 e s m args below meth c A Q X hend
  refine v_lv (lv' := [(0, .ref (rh iMO)), (1, .int xa), (2, .int xb), (3, .int xc)]) [0, 1, 2, 3] rfl ?_
  refine v_iload_n X 1 dX8_goes_0 rfl rfl ?_
  refine v_iconst (v := 2) X dX8_goes_1 (by decide) ?_
  refine v_suff (pc2 := 43) (lv2 := [(0, .ref (rh iMO)), (1, .int xa), (2, .int xb), (3, .int xc)]) (st2 := [.int ((if 2 ≤ xa then (if 6 ≤ xa then (f_MO_below xb xc) else (if xc ≤ xb then 0 else 1)) else (if xb = xc then 1 else 0)) : Int32)]) (σ2 := σ) ?_ (fun J2 => ?_)
  rotate_left
  ·
    refine v_icmp_ge X 18 dX8_goes_2 (by decide) (fun h2 => ?_) (fun h2 => ?_)
    ·
      refine v_iload_n X 1 dX8_goes_18 rfl rfl ?_
      refine v_bipush (v := 6) X dX8_goes_19 (by decide) ?_
      refine v_icmp_ge X 37 dX8_goes_21 (by decide) (fun h21 => ?_) (fun h21 => ?_)
      ·
        refine v_aload_n X 0 dX8_goes_37 rfl rfl ?_
        refine v_iload_n X 2 dX8_goes_38 rfl rfl ?_
        refine v_iload_n X 3 dX8_goes_39 rfl rfl ?_
        refine v_callV_CI (rest := []) X [.int xb, .int xc] (c_MO_below xb xc σ ) mf_MO_below wi_MO_below wl_MO_below (lt_MO ) (sh_MO ) rfl wm_MO_133 rfl ⟨by decide, by decide⟩ (Nat.le_of_ble_eq_true rfl) ⟨by decide, by decide⟩ dX8_goes_40 ?_
        have e9 : (((if 2 ≤ xa then (if 6 ≤ xa then (f_MO_below xb xc) else (if xc ≤ xb then 0 else 1)) else (if xb = xc then 1 else 0)) : Int32) : Int32) = (f_MO_below xb xc) := by simp only [if_pos h2, if_pos h21]
        rw [e9] at J2
        exact J2
      ·
        refine v_iload_n X 2 dX8_goes_24 rfl rfl ?_
        refine v_iload_n X 3 dX8_goes_25 rfl rfl ?_
        refine v_icmp_ge X 33 dX8_goes_26 (by decide) (fun h26 => ?_) (fun h26 => ?_)
        ·
          refine v_iconst (v := 0) X dX8_goes_33 (by decide) ?_
          refine v_goto (tgt := 43) X dX8_goes_34 (by decide) ?_
          have e9 : (((if 2 ≤ xa then (if 6 ≤ xa then (f_MO_below xb xc) else (if xc ≤ xb then 0 else 1)) else (if xb = xc then 1 else 0)) : Int32) : Int32) = 0 := by simp only [if_pos h2, if_neg h21, if_pos h26]
          rw [e9] at J2
          exact J2
        ·
          refine v_iconst (v := 1) X dX8_goes_29 (by decide) ?_
          refine v_goto (tgt := 43) X dX8_goes_30 (by decide) ?_
          have e9 : (((if 2 ≤ xa then (if 6 ≤ xa then (f_MO_below xb xc) else (if xc ≤ xb then 0 else 1)) else (if xb = xc then 1 else 0)) : Int32) : Int32) = 1 := by simp only [if_pos h2, if_neg h21, if_neg h26]
          rw [e9] at J2
          exact J2
    ·
      refine v_iload_n X 2 dX8_goes_5 rfl rfl ?_
      refine v_iload_n X 3 dX8_goes_6 rfl rfl ?_
      refine v_icmp_ne X 14 dX8_goes_7 (by decide) (fun h7 => ?_) (fun h7 => ?_)
      ·
        refine v_iconst (v := 0) X dX8_goes_14 (by decide) ?_
        refine v_goto (tgt := 43) X dX8_goes_15 (by decide) ?_
        have e9 : (((if 2 ≤ xa then (if 6 ≤ xa then (f_MO_below xb xc) else (if xc ≤ xb then 0 else 1)) else (if xb = xc then 1 else 0)) : Int32) : Int32) = 0 := by simp only [if_neg h2, if_neg h7]
        rw [e9] at J2
        exact J2
      ·
        refine v_iconst (v := 1) X dX8_goes_10 (by decide) ?_
        refine v_goto (tgt := 43) X dX8_goes_11 (by decide) ?_
        have e9 : (((if 2 ≤ xa then (if 6 ≤ xa then (f_MO_below xb xc) else (if xc ≤ xb then 0 else 1)) else (if xb = xc then 1 else 0)) : Int32) : Int32) = 1 := by simp only [if_neg h2, if_pos h7]
        rw [e9] at J2
        exact J2
  refine v_istore (lv' := [(4, .int ((if 2 ≤ xa then (if 6 ≤ xa then (f_MO_below xb xc) else (if xc ≤ xb then 0 else 1)) else (if xb = xc then 1 else 0)) : Int32)), (0, .ref (rh iMO)), (1, .int xa), (2, .int xb), (3, .int xc)]) X dX8_goes_43 (by decide) rfl ?_
  refine v_iload X 0 dX8_goes_45 rfl ?_
  refine v_iload_n X 2 dX8_goes_47 rfl rfl ?_
  refine v_iconst (v := 2) X dX8_goes_48 (by decide) ?_
  refine v_irem X (by decide) dX8_goes_49 ?_
  refine v_suff (pc2 := 58) (lv2 := [(4, .int ((if 2 ≤ xa then (if 6 ≤ xa then (f_MO_below xb xc) else (if xc ≤ xb then 0 else 1)) else (if xb = xc then 1 else 0)) : Int32)), (0, .ref (rh iMO)), (1, .int xa), (2, .int xb), (3, .int xc)]) (st2 := [.int ((if (xa - xa / 2 * 2) = 0 then 1 else 0) : Int32), .int ((if 2 ≤ xa then (if 6 ≤ xa then (f_MO_below xb xc) else (if xc ≤ xb then 0 else 1)) else (if xb = xc then 1 else 0)) : Int32)]) (σ2 := σ) ?_ (fun J50 => ?_)
  rotate_left
  ·
    refine v_if_ne X 57 dX8_goes_50 (by decide) (fun h50 => ?_) (fun h50 => ?_)
    ·
      refine v_iconst (v := 0) X dX8_goes_57 (by decide) ?_
      have e9 : (((if (xa - xa / 2 * 2) = 0 then 1 else 0) : Int32) : Int32) = 0 := by simp only [if_neg h50]
      rw [e9] at J50
      exact J50
    ·
      refine v_iconst (v := 1) X dX8_goes_53 (by decide) ?_
      refine v_goto (tgt := 58) X dX8_goes_54 (by decide) ?_
      have e9 : (((if (xa - xa / 2 * 2) = 0 then 1 else 0) : Int32) : Int32) = 1 := by simp only [if_pos h50]
      rw [e9] at J50
      exact J50
  refine v_suff (pc2 := 66) (lv2 := [(4, .int ((if 2 ≤ xa then (if 6 ≤ xa then (f_MO_below xb xc) else (if xc ≤ xb then 0 else 1)) else (if xb = xc then 1 else 0)) : Int32)), (0, .ref (rh iMO)), (1, .int xa), (2, .int xb), (3, .int xc)]) (st2 := [.int ((if ((if 2 ≤ xa then (if 6 ≤ xa then (f_MO_below xb xc) else (if xc ≤ xb then 0 else 1)) else (if xb = xc then 1 else 0)) : Int32) = ((if (xa - xa / 2 * 2) = 0 then 1 else 0) : Int32) then 1 else 0) : Int32)]) (σ2 := σ) ?_ (fun J58 => ?_)
  rotate_left
  ·
    refine v_icmp_ne X 65 dX8_goes_58 (by decide) (fun h58 => ?_) (fun h58 => ?_)
    ·
      refine v_iconst (v := 0) X dX8_goes_65 (by decide) ?_
      have e9 : (((if ((if 2 ≤ xa then (if 6 ≤ xa then (f_MO_below xb xc) else (if xc ≤ xb then 0 else 1)) else (if xb = xc then 1 else 0)) : Int32) = ((if (xa - xa / 2 * 2) = 0 then 1 else 0) : Int32) then 1 else 0) : Int32) : Int32) = 0 := by simp only [if_neg h58]
      rw [e9] at J58
      exact J58
    ·
      refine v_iconst (v := 1) X dX8_goes_61 (by decide) ?_
      refine v_goto (tgt := 66) X dX8_goes_62 (by decide) ?_
      have e9 : (((if ((if 2 ≤ xa then (if 6 ≤ xa then (f_MO_below xb xc) else (if xc ≤ xb then 0 else 1)) else (if xb = xc then 1 else 0)) : Int32) = ((if (xa - xa / 2 * 2) = 0 then 1 else 0) : Int32) then 1 else 0) : Int32) : Int32) = 1 := by simp only [if_pos h58]
      rw [e9] at J58
      exact J58
  have e9 : f_MO_goes xa xb xc = ((if ((if 2 ≤ xa then (if 6 ≤ xa then (f_MO_below xb xc) else (if xc ≤ xb then 0 else 1)) else (if xb = xc then 1 else 0)) : Int32) = ((if (xa - xa / 2 * 2) = 0 then 1 else 0) : Int32) then 1 else 0) : Int32) := by simp only [f_MO_goes]
  exact v_endI hend dX8_goes_66 e9 rfl
def f_MO_known (xa : Int32) : Int32 :=
  (if (xa &&& 127) = 3 then ((if ((ushr xa 12) &&& 7) = 2 then (if ((if 16 ≤ ((ushr xa 7) &&& 31) then 0 else 1) : Int32) = 0 then 0 else (if ((if 16 ≤ ((ushr xa 15) &&& 31) then 0 else 1) : Int32) = 0 then 0 else 1)) else 0) : Int32) else (if (xa &&& 127) = 19 then ((if ((if 16 ≤ ((ushr xa 7) &&& 31) then 0 else 1) : Int32) = 0 then 0 else (if ((if 16 ≤ ((ushr xa 15) &&& 31) then 0 else 1) : Int32) = 0 then 0 else (if ((ushr xa 12) &&& 7) = 1 then (if (ushr xa 25) = 0 then (if ((ushr xa 12) &&& 7) = 5 then 1 else 1) else 0) else (if ((ushr xa 12) &&& 7) = 5 then (if (ushr xa 25) = 0 then 1 else (if (ushr xa 25) = 32 then 1 else 0)) else 1)))) : Int32) else (if (xa &&& 127) = 23 then ((if 16 ≤ ((ushr xa 7) &&& 31) then 0 else 1) : Int32) else (if (xa &&& 127) = 35 then ((if ((ushr xa 12) &&& 7) = 2 then (if ((if 16 ≤ ((ushr xa 15) &&& 31) then 0 else 1) : Int32) = 0 then 0 else (if ((if 16 ≤ ((ushr xa 20) &&& 31) then 0 else 1) : Int32) = 0 then 0 else 1)) else 0) : Int32) else (if (xa &&& 127) = 51 then ((if ((if 16 ≤ ((ushr xa 7) &&& 31) then 0 else 1) : Int32) = 0 then 0 else (if ((if 16 ≤ ((ushr xa 15) &&& 31) then 0 else 1) : Int32) = 0 then 0 else (if ((if 16 ≤ ((ushr xa 20) &&& 31) then 0 else 1) : Int32) = 0 then 0 else (if (ushr xa 25) = 0 then 1 else (if (ushr xa 25) = 32 then (if ((ushr xa 12) &&& 7) = 0 then 1 else (if ((ushr xa 12) &&& 7) = 5 then 1 else 0)) else 0))))) : Int32) else (if (xa &&& 127) = 55 then ((if 16 ≤ ((ushr xa 7) &&& 31) then 0 else 1) : Int32) else (if (xa &&& 127) = 99 then ((if ((ushr xa 12) &&& 7) = 2 then 0 else (if ((ushr xa 12) &&& 7) = 3 then 0 else (if ((if 16 ≤ ((ushr xa 15) &&& 31) then 0 else 1) : Int32) = 0 then 0 else (if ((if 16 ≤ ((ushr xa 20) &&& 31) then 0 else 1) : Int32) = 0 then 0 else 1)))) : Int32) else (if (xa &&& 127) = 103 then ((if ((ushr xa 12) &&& 7) = 0 then (if ((if 16 ≤ ((ushr xa 7) &&& 31) then 0 else 1) : Int32) = 0 then 0 else (if ((if 16 ≤ ((ushr xa 15) &&& 31) then 0 else 1) : Int32) = 0 then 0 else 1)) else 0) : Int32) else (if (xa &&& 127) = 111 then ((if 16 ≤ ((ushr xa 7) &&& 31) then 0 else 1) : Int32) else ((if xa = 115 then 1 else (if xa = 1048691 then 1 else 0)) : Int32))))))))))
theorem z_MO_known (xa : Int32) : (f_MO_known xa) = 0 ∨ (f_MO_known xa) = 1 := by
  unfold f_MO_known
  repeat' first | with_reducible apply z_ite | with_reducible exact Or.inl rfl | with_reducible exact Or.inr rfl | split
set_option maxHeartbeats 4000000 in
set_option maxRecDepth 100000 in
theorem c_MO_known (xa : Int32) (σ : St) : CI l D (tyL cA) rh (rcW rh cA) NW yX8_known cX8_known 8 .boolean 0 [.ref (rh iMO), .int xa] σ (f_MO_known xa) σ := by
  refine CI.of rfl (Nat.le_of_ble_eq_true rfl) (zN (z_MO_known ..)) ?_
  intro p9 e s m args below meth c A Q X hend
  refine v_lv (lv' := [(0, .ref (rh iMO)), (1, .int xa)]) [0, 1] rfl ?_
  refine v_iload_n X 1 dX8_known_0 rfl rfl ?_
  refine v_bipush (v := 127) X dX8_known_1 (by decide) ?_
  refine v_iand X dX8_known_3 ?_
  refine v_istore_n (lv' := [(2, .int (xa &&& 127)), (0, .ref (rh iMO)), (1, .int xa)]) X dX8_known_4 rfl (by decide) rfl ?_
  refine v_iload_n X 2 dX8_known_5 rfl rfl ?_
  refine v_bipush (v := 12) X dX8_known_6 (by decide) ?_
  refine v_iushr X dX8_known_8 ?_
  refine v_bipush (v := 7) X dX8_known_9 (by decide) ?_
  refine v_iand X dX8_known_11 ?_
  refine v_istore_n (lv' := [(3, .int ((ushr xa 12) &&& 7)), (2, .int (xa &&& 127)), (0, .ref (rh iMO)), (1, .int xa)]) X dX8_known_12 rfl (by decide) rfl ?_
  refine v_iload_n X 3 dX8_known_13 rfl rfl ?_
  refine v_bipush (v := 25) X dX8_known_14 (by decide) ?_
  refine v_iushr X dX8_known_16 ?_
  refine v_istore (lv' := [(4, .int (ushr xa 25)), (3, .int ((ushr xa 12) &&& 7)), (2, .int (xa &&& 127)), (0, .ref (rh iMO)), (1, .int xa)]) X dX8_known_17 (by decide) rfl ?_
  refine v_iload_n X 4 dX8_known_19 rfl rfl ?_
  refine v_bipush (v := 7) X dX8_known_20 (by decide) ?_
  refine v_iushr X dX8_known_22 ?_
  refine v_bipush (v := 31) X dX8_known_23 (by decide) ?_
  refine v_iand X dX8_known_25 ?_
  refine v_bipush (v := 16) X dX8_known_26 (by decide) ?_
  refine v_suff (pc2 := 36) (lv2 := [(4, .int (ushr xa 25)), (3, .int ((ushr xa 12) &&& 7)), (2, .int (xa &&& 127)), (0, .ref (rh iMO)), (1, .int xa)]) (st2 := [.int ((if 16 ≤ ((ushr xa 7) &&& 31) then 0 else 1) : Int32)]) (σ2 := σ) ?_ (fun J28 => ?_)
  rotate_left
  ·
    refine v_icmp_ge X 35 dX8_known_28 (by decide) (fun h28 => ?_) (fun h28 => ?_)
    ·
      refine v_iconst (v := 0) X dX8_known_35 (by decide) ?_
      have e9 : (((if 16 ≤ ((ushr xa 7) &&& 31) then 0 else 1) : Int32) : Int32) = 0 := by simp only [if_pos h28]
      rw [e9] at J28
      exact J28
    ·
      refine v_iconst (v := 1) X dX8_known_31 (by decide) ?_
      refine v_goto (tgt := 36) X dX8_known_32 (by decide) ?_
      have e9 : (((if 16 ≤ ((ushr xa 7) &&& 31) then 0 else 1) : Int32) : Int32) = 1 := by simp only [if_neg h28]
      rw [e9] at J28
      exact J28
  refine v_istore (lv' := [(5, .int ((if 16 ≤ ((ushr xa 7) &&& 31) then 0 else 1) : Int32)), (4, .int (ushr xa 25)), (3, .int ((ushr xa 12) &&& 7)), (2, .int (xa &&& 127)), (0, .ref (rh iMO)), (1, .int xa)]) X dX8_known_36 (by decide) rfl ?_
  refine v_iload_n X 5 dX8_known_38 rfl rfl ?_
  refine v_bipush (v := 15) X dX8_known_39 (by decide) ?_
  refine v_iushr X dX8_known_41 ?_
  refine v_bipush (v := 31) X dX8_known_42 (by decide) ?_
  refine v_iand X dX8_known_44 ?_
  refine v_bipush (v := 16) X dX8_known_45 (by decide) ?_
  refine v_suff (pc2 := 55) (lv2 := [(5, .int ((if 16 ≤ ((ushr xa 7) &&& 31) then 0 else 1) : Int32)), (4, .int (ushr xa 25)), (3, .int ((ushr xa 12) &&& 7)), (2, .int (xa &&& 127)), (0, .ref (rh iMO)), (1, .int xa)]) (st2 := [.int ((if 16 ≤ ((ushr xa 15) &&& 31) then 0 else 1) : Int32)]) (σ2 := σ) ?_ (fun J47 => ?_)
  rotate_left
  ·
    refine v_icmp_ge X 54 dX8_known_47 (by decide) (fun h47 => ?_) (fun h47 => ?_)
    ·
      refine v_iconst (v := 0) X dX8_known_54 (by decide) ?_
      have e9 : (((if 16 ≤ ((ushr xa 15) &&& 31) then 0 else 1) : Int32) : Int32) = 0 := by simp only [if_pos h47]
      rw [e9] at J47
      exact J47
    ·
      refine v_iconst (v := 1) X dX8_known_50 (by decide) ?_
      refine v_goto (tgt := 55) X dX8_known_51 (by decide) ?_
      have e9 : (((if 16 ≤ ((ushr xa 15) &&& 31) then 0 else 1) : Int32) : Int32) = 1 := by simp only [if_neg h47]
      rw [e9] at J47
      exact J47
  refine v_istore (lv' := [(6, .int ((if 16 ≤ ((ushr xa 15) &&& 31) then 0 else 1) : Int32)), (5, .int ((if 16 ≤ ((ushr xa 7) &&& 31) then 0 else 1) : Int32)), (4, .int (ushr xa 25)), (3, .int ((ushr xa 12) &&& 7)), (2, .int (xa &&& 127)), (0, .ref (rh iMO)), (1, .int xa)]) X dX8_known_55 (by decide) rfl ?_
  refine v_iload_n X 6 dX8_known_57 rfl rfl ?_
  refine v_bipush (v := 20) X dX8_known_58 (by decide) ?_
  refine v_iushr X dX8_known_60 ?_
  refine v_bipush (v := 31) X dX8_known_61 (by decide) ?_
  refine v_iand X dX8_known_63 ?_
  refine v_bipush (v := 16) X dX8_known_64 (by decide) ?_
  refine v_suff (pc2 := 74) (lv2 := [(6, .int ((if 16 ≤ ((ushr xa 15) &&& 31) then 0 else 1) : Int32)), (5, .int ((if 16 ≤ ((ushr xa 7) &&& 31) then 0 else 1) : Int32)), (4, .int (ushr xa 25)), (3, .int ((ushr xa 12) &&& 7)), (2, .int (xa &&& 127)), (0, .ref (rh iMO)), (1, .int xa)]) (st2 := [.int ((if 16 ≤ ((ushr xa 20) &&& 31) then 0 else 1) : Int32)]) (σ2 := σ) ?_ (fun J66 => ?_)
  rotate_left
  ·
    refine v_icmp_ge X 73 dX8_known_66 (by decide) (fun h66 => ?_) (fun h66 => ?_)
    ·
      refine v_iconst (v := 0) X dX8_known_73 (by decide) ?_
      have e9 : (((if 16 ≤ ((ushr xa 20) &&& 31) then 0 else 1) : Int32) : Int32) = 0 := by simp only [if_pos h66]
      rw [e9] at J66
      exact J66
    ·
      refine v_iconst (v := 1) X dX8_known_69 (by decide) ?_
      refine v_goto (tgt := 74) X dX8_known_70 (by decide) ?_
      have e9 : (((if 16 ≤ ((ushr xa 20) &&& 31) then 0 else 1) : Int32) : Int32) = 1 := by simp only [if_neg h66]
      rw [e9] at J66
      exact J66
  refine v_istore (lv' := [(7, .int ((if 16 ≤ ((ushr xa 20) &&& 31) then 0 else 1) : Int32)), (6, .int ((if 16 ≤ ((ushr xa 15) &&& 31) then 0 else 1) : Int32)), (5, .int ((if 16 ≤ ((ushr xa 7) &&& 31) then 0 else 1) : Int32)), (4, .int (ushr xa 25)), (3, .int ((ushr xa 12) &&& 7)), (2, .int (xa &&& 127)), (0, .ref (rh iMO)), (1, .int xa)]) X dX8_known_74 (by decide) rfl ?_
  refine v_iload_n X 5 dX8_known_76 rfl rfl ?_
  by_cases h77_0 : (xa &&& 127) = 3
  ·
    refine v_lsw (off := 132) X 209 dX8_known_77 (by decide) (by rw [h77_0] <;> rfl) (by decide) ?_
    refine v_iload_n X 4 dX8_known_209 rfl rfl ?_
    refine v_iconst (v := 2) X dX8_known_210 (by decide) ?_
    refine v_suff (pc2 := 229) (lv2 := [(7, .int ((if 16 ≤ ((ushr xa 20) &&& 31) then 0 else 1) : Int32)), (6, .int ((if 16 ≤ ((ushr xa 15) &&& 31) then 0 else 1) : Int32)), (5, .int ((if 16 ≤ ((ushr xa 7) &&& 31) then 0 else 1) : Int32)), (4, .int (ushr xa 25)), (3, .int ((ushr xa 12) &&& 7)), (2, .int (xa &&& 127)), (0, .ref (rh iMO)), (1, .int xa)]) (st2 := [.int ((if ((ushr xa 12) &&& 7) = 2 then (if ((if 16 ≤ ((ushr xa 7) &&& 31) then 0 else 1) : Int32) = 0 then 0 else (if ((if 16 ≤ ((ushr xa 15) &&& 31) then 0 else 1) : Int32) = 0 then 0 else 1)) else 0) : Int32)]) (σ2 := σ) ?_ (fun J211 => ?_)
    rotate_left
    ·
      refine v_icmp_ne X 228 dX8_known_211 (by decide) (fun h211 => ?_) (fun h211 => ?_)
      ·
        refine v_iconst (v := 0) X dX8_known_228 (by decide) ?_
        have e9 : (((if ((ushr xa 12) &&& 7) = 2 then (if ((if 16 ≤ ((ushr xa 7) &&& 31) then 0 else 1) : Int32) = 0 then 0 else (if ((if 16 ≤ ((ushr xa 15) &&& 31) then 0 else 1) : Int32) = 0 then 0 else 1)) else 0) : Int32) : Int32) = 0 := by simp only [if_neg h211]
        rw [e9] at J211
        exact J211
      ·
        refine v_iload X 2 dX8_known_214 rfl ?_
        refine v_if_eq X 228 dX8_known_216 (by decide) (fun h216 => ?_) (fun h216 => ?_)
        ·
          refine v_iconst (v := 0) X dX8_known_228 (by decide) ?_
          have e9 : (((if ((ushr xa 12) &&& 7) = 2 then (if ((if 16 ≤ ((ushr xa 7) &&& 31) then 0 else 1) : Int32) = 0 then 0 else (if ((if 16 ≤ ((ushr xa 15) &&& 31) then 0 else 1) : Int32) = 0 then 0 else 1)) else 0) : Int32) : Int32) = 0 := by simp only [if_pos h211, if_pos h216]
          rw [e9] at J211
          exact J211
        ·
          refine v_iload X 1 dX8_known_219 rfl ?_
          refine v_if_eq X 228 dX8_known_221 (by decide) (fun h221 => ?_) (fun h221 => ?_)
          ·
            refine v_iconst (v := 0) X dX8_known_228 (by decide) ?_
            have e9 : (((if ((ushr xa 12) &&& 7) = 2 then (if ((if 16 ≤ ((ushr xa 7) &&& 31) then 0 else 1) : Int32) = 0 then 0 else (if ((if 16 ≤ ((ushr xa 15) &&& 31) then 0 else 1) : Int32) = 0 then 0 else 1)) else 0) : Int32) : Int32) = 0 := by simp only [if_pos h211, if_neg h216, if_pos h221]
            rw [e9] at J211
            exact J211
          ·
            refine v_iconst (v := 1) X dX8_known_224 (by decide) ?_
            refine v_goto (tgt := 229) X dX8_known_225 (by decide) ?_
            have e9 : (((if ((ushr xa 12) &&& 7) = 2 then (if ((if 16 ≤ ((ushr xa 7) &&& 31) then 0 else 1) : Int32) = 0 then 0 else (if ((if 16 ≤ ((ushr xa 15) &&& 31) then 0 else 1) : Int32) = 0 then 0 else 1)) else 0) : Int32) : Int32) = 1 := by simp only [if_pos h211, if_neg h216, if_neg h221]
            rw [e9] at J211
            exact J211
    have e9 : f_MO_known xa = ((if ((ushr xa 12) &&& 7) = 2 then (if ((if 16 ≤ ((ushr xa 7) &&& 31) then 0 else 1) : Int32) = 0 then 0 else (if ((if 16 ≤ ((ushr xa 15) &&& 31) then 0 else 1) : Int32) = 0 then 0 else 1)) else 0) : Int32) := by simp only [f_MO_known, if_pos h77_0]
    exact v_endI hend dX8_known_229 e9 rfl
  by_cases h77_1 : (xa &&& 127) = 19
  ·
    refine v_lsw (off := 174) X 251 dX8_known_77 (by decide) (by rw [h77_1] <;> rfl) (by decide) ?_
    refine v_iload X 2 dX8_known_251 rfl ?_
    refine v_suff (pc2 := 293) (lv2 := [(7, .int ((if 16 ≤ ((ushr xa 20) &&& 31) then 0 else 1) : Int32)), (6, .int ((if 16 ≤ ((ushr xa 15) &&& 31) then 0 else 1) : Int32)), (5, .int ((if 16 ≤ ((ushr xa 7) &&& 31) then 0 else 1) : Int32)), (4, .int (ushr xa 25)), (3, .int ((ushr xa 12) &&& 7)), (2, .int (xa &&& 127)), (0, .ref (rh iMO)), (1, .int xa)]) (st2 := [.int ((if ((if 16 ≤ ((ushr xa 7) &&& 31) then 0 else 1) : Int32) = 0 then 0 else (if ((if 16 ≤ ((ushr xa 15) &&& 31) then 0 else 1) : Int32) = 0 then 0 else (if ((ushr xa 12) &&& 7) = 1 then (if (ushr xa 25) = 0 then (if ((ushr xa 12) &&& 7) = 5 then 1 else 1) else 0) else (if ((ushr xa 12) &&& 7) = 5 then (if (ushr xa 25) = 0 then 1 else (if (ushr xa 25) = 32 then 1 else 0)) else 1)))) : Int32)]) (σ2 := σ) ?_ (fun J253 => ?_)
    rotate_left
    ·
      refine v_if_eq X 292 dX8_known_253 (by decide) (fun h253 => ?_) (fun h253 => ?_)
      ·
        refine v_iconst (v := 0) X dX8_known_292 (by decide) ?_
        have e9 : (((if ((if 16 ≤ ((ushr xa 7) &&& 31) then 0 else 1) : Int32) = 0 then 0 else (if ((if 16 ≤ ((ushr xa 15) &&& 31) then 0 else 1) : Int32) = 0 then 0 else (if ((ushr xa 12) &&& 7) = 1 then (if (ushr xa 25) = 0 then (if ((ushr xa 12) &&& 7) = 5 then 1 else 1) else 0) else (if ((ushr xa 12) &&& 7) = 5 then (if (ushr xa 25) = 0 then 1 else (if (ushr xa 25) = 32 then 1 else 0)) else 1)))) : Int32) : Int32) = 0 := by simp only [if_pos h253]
        rw [e9] at J253
        exact J253
      ·
        refine v_iload X 1 dX8_known_256 rfl ?_
        refine v_if_eq X 292 dX8_known_258 (by decide) (fun h258 => ?_) (fun h258 => ?_)
        ·
          refine v_iconst (v := 0) X dX8_known_292 (by decide) ?_
          have e9 : (((if ((if 16 ≤ ((ushr xa 7) &&& 31) then 0 else 1) : Int32) = 0 then 0 else (if ((if 16 ≤ ((ushr xa 15) &&& 31) then 0 else 1) : Int32) = 0 then 0 else (if ((ushr xa 12) &&& 7) = 1 then (if (ushr xa 25) = 0 then (if ((ushr xa 12) &&& 7) = 5 then 1 else 1) else 0) else (if ((ushr xa 12) &&& 7) = 5 then (if (ushr xa 25) = 0 then 1 else (if (ushr xa 25) = 32 then 1 else 0)) else 1)))) : Int32) : Int32) = 0 := by simp only [if_neg h253, if_pos h258]
          rw [e9] at J253
          exact J253
        ·
          refine v_iload_n X 4 dX8_known_261 rfl rfl ?_
          refine v_iconst (v := 1) X dX8_known_262 (by decide) ?_
          refine v_icmp_ne X 271 dX8_known_263 (by decide) (fun h263 => ?_) (fun h263 => ?_)
          ·
            refine v_iload_n X 4 dX8_known_271 rfl rfl ?_
            refine v_iconst (v := 5) X dX8_known_272 (by decide) ?_
            refine v_icmp_ne X 288 dX8_known_273 (by decide) (fun h273 => ?_) (fun h273 => ?_)
            ·
              refine v_iconst (v := 1) X dX8_known_288 (by decide) ?_
              refine v_goto (tgt := 293) X dX8_known_289 (by decide) ?_
              have e9 : (((if ((if 16 ≤ ((ushr xa 7) &&& 31) then 0 else 1) : Int32) = 0 then 0 else (if ((if 16 ≤ ((ushr xa 15) &&& 31) then 0 else 1) : Int32) = 0 then 0 else (if ((ushr xa 12) &&& 7) = 1 then (if (ushr xa 25) = 0 then (if ((ushr xa 12) &&& 7) = 5 then 1 else 1) else 0) else (if ((ushr xa 12) &&& 7) = 5 then (if (ushr xa 25) = 0 then 1 else (if (ushr xa 25) = 32 then 1 else 0)) else 1)))) : Int32) : Int32) = 1 := by simp only [if_neg h253, if_neg h258, if_neg h263, if_neg h273]
              rw [e9] at J253
              exact J253
            ·
              refine v_iload X 3 dX8_known_276 rfl ?_
              refine v_if_eq X 288 dX8_known_278 (by decide) (fun h278 => ?_) (fun h278 => ?_)
              ·
                refine v_iconst (v := 1) X dX8_known_288 (by decide) ?_
                refine v_goto (tgt := 293) X dX8_known_289 (by decide) ?_
                have e9 : (((if ((if 16 ≤ ((ushr xa 7) &&& 31) then 0 else 1) : Int32) = 0 then 0 else (if ((if 16 ≤ ((ushr xa 15) &&& 31) then 0 else 1) : Int32) = 0 then 0 else (if ((ushr xa 12) &&& 7) = 1 then (if (ushr xa 25) = 0 then (if ((ushr xa 12) &&& 7) = 5 then 1 else 1) else 0) else (if ((ushr xa 12) &&& 7) = 5 then (if (ushr xa 25) = 0 then 1 else (if (ushr xa 25) = 32 then 1 else 0)) else 1)))) : Int32) : Int32) = 1 := by simp only [if_neg h253, if_neg h258, if_neg h263, if_pos h273, if_pos h278]
                rw [e9] at J253
                exact J253
              ·
                refine v_iload X 3 dX8_known_281 rfl ?_
                refine v_bipush (v := 32) X dX8_known_283 (by decide) ?_
                refine v_icmp_ne X 292 dX8_known_285 (by decide) (fun h285 => ?_) (fun h285 => ?_)
                ·
                  refine v_iconst (v := 0) X dX8_known_292 (by decide) ?_
                  have e9 : (((if ((if 16 ≤ ((ushr xa 7) &&& 31) then 0 else 1) : Int32) = 0 then 0 else (if ((if 16 ≤ ((ushr xa 15) &&& 31) then 0 else 1) : Int32) = 0 then 0 else (if ((ushr xa 12) &&& 7) = 1 then (if (ushr xa 25) = 0 then (if ((ushr xa 12) &&& 7) = 5 then 1 else 1) else 0) else (if ((ushr xa 12) &&& 7) = 5 then (if (ushr xa 25) = 0 then 1 else (if (ushr xa 25) = 32 then 1 else 0)) else 1)))) : Int32) : Int32) = 0 := by simp only [if_neg h253, if_neg h258, if_neg h263, if_pos h273, if_neg h278, if_neg h285]
                  rw [e9] at J253
                  exact J253
                ·
                  refine v_iconst (v := 1) X dX8_known_288 (by decide) ?_
                  refine v_goto (tgt := 293) X dX8_known_289 (by decide) ?_
                  have e9 : (((if ((if 16 ≤ ((ushr xa 7) &&& 31) then 0 else 1) : Int32) = 0 then 0 else (if ((if 16 ≤ ((ushr xa 15) &&& 31) then 0 else 1) : Int32) = 0 then 0 else (if ((ushr xa 12) &&& 7) = 1 then (if (ushr xa 25) = 0 then (if ((ushr xa 12) &&& 7) = 5 then 1 else 1) else 0) else (if ((ushr xa 12) &&& 7) = 5 then (if (ushr xa 25) = 0 then 1 else (if (ushr xa 25) = 32 then 1 else 0)) else 1)))) : Int32) : Int32) = 1 := by simp only [if_neg h253, if_neg h258, if_neg h263, if_pos h273, if_neg h278, if_pos h285]
                  rw [e9] at J253
                  exact J253
          ·
            refine v_iload X 3 dX8_known_266 rfl ?_
            refine v_if_ne X 292 dX8_known_268 (by decide) (fun h268 => ?_) (fun h268 => ?_)
            ·
              refine v_iconst (v := 0) X dX8_known_292 (by decide) ?_
              have e9 : (((if ((if 16 ≤ ((ushr xa 7) &&& 31) then 0 else 1) : Int32) = 0 then 0 else (if ((if 16 ≤ ((ushr xa 15) &&& 31) then 0 else 1) : Int32) = 0 then 0 else (if ((ushr xa 12) &&& 7) = 1 then (if (ushr xa 25) = 0 then (if ((ushr xa 12) &&& 7) = 5 then 1 else 1) else 0) else (if ((ushr xa 12) &&& 7) = 5 then (if (ushr xa 25) = 0 then 1 else (if (ushr xa 25) = 32 then 1 else 0)) else 1)))) : Int32) : Int32) = 0 := by simp only [if_neg h253, if_neg h258, if_pos h263, if_neg h268]
              rw [e9] at J253
              exact J253
            ·
              refine v_iload_n X 4 dX8_known_271 rfl rfl ?_
              refine v_iconst (v := 5) X dX8_known_272 (by decide) ?_
              refine v_icmp_ne X 288 dX8_known_273 (by decide) (fun h273 => ?_) (fun h273 => ?_)
              ·
                refine v_iconst (v := 1) X dX8_known_288 (by decide) ?_
                refine v_goto (tgt := 293) X dX8_known_289 (by decide) ?_
                have e9 : (((if ((if 16 ≤ ((ushr xa 7) &&& 31) then 0 else 1) : Int32) = 0 then 0 else (if ((if 16 ≤ ((ushr xa 15) &&& 31) then 0 else 1) : Int32) = 0 then 0 else (if ((ushr xa 12) &&& 7) = 1 then (if (ushr xa 25) = 0 then (if ((ushr xa 12) &&& 7) = 5 then 1 else 1) else 0) else (if ((ushr xa 12) &&& 7) = 5 then (if (ushr xa 25) = 0 then 1 else (if (ushr xa 25) = 32 then 1 else 0)) else 1)))) : Int32) : Int32) = 1 := by simp only [if_neg h253, if_neg h258, if_pos h263, if_pos h268, if_neg h273]
                rw [e9] at J253
                exact J253
              ·
                refine v_iload X 3 dX8_known_276 rfl ?_
                refine v_if_eq X 288 dX8_known_278 (by decide) (fun h278 => ?_) (fun h278 => ?_)
                ·
                  refine v_iconst (v := 1) X dX8_known_288 (by decide) ?_
                  refine v_goto (tgt := 293) X dX8_known_289 (by decide) ?_
                  have e9 : (((if ((if 16 ≤ ((ushr xa 7) &&& 31) then 0 else 1) : Int32) = 0 then 0 else (if ((if 16 ≤ ((ushr xa 15) &&& 31) then 0 else 1) : Int32) = 0 then 0 else (if ((ushr xa 12) &&& 7) = 1 then (if (ushr xa 25) = 0 then (if ((ushr xa 12) &&& 7) = 5 then 1 else 1) else 0) else (if ((ushr xa 12) &&& 7) = 5 then (if (ushr xa 25) = 0 then 1 else (if (ushr xa 25) = 32 then 1 else 0)) else 1)))) : Int32) : Int32) = 1 := by simp only [if_neg h253, if_neg h258, if_pos h263, if_pos h268, if_pos h273]
                  rw [e9] at J253
                  exact J253
                · exact absurd h268 h278
    have e9 : f_MO_known xa = ((if ((if 16 ≤ ((ushr xa 7) &&& 31) then 0 else 1) : Int32) = 0 then 0 else (if ((if 16 ≤ ((ushr xa 15) &&& 31) then 0 else 1) : Int32) = 0 then 0 else (if ((ushr xa 12) &&& 7) = 1 then (if (ushr xa 25) = 0 then (if ((ushr xa 12) &&& 7) = 5 then 1 else 1) else 0) else (if ((ushr xa 12) &&& 7) = 5 then (if (ushr xa 25) = 0 then 1 else (if (ushr xa 25) = 32 then 1 else 0)) else 1)))) : Int32) := by simp only [f_MO_known, if_neg h77_0, if_pos h77_1]
    exact v_endI hend dX8_known_293 e9 rfl
  by_cases h77_2 : (xa &&& 127) = 23
  ·
    refine v_lsw (off := 83) X 160 dX8_known_77 (by decide) (by rw [h77_2] <;> rfl) (by decide) ?_
    refine v_iload X 2 dX8_known_160 rfl ?_
    have e9 : f_MO_known xa = ((if 16 ≤ ((ushr xa 7) &&& 31) then 0 else 1) : Int32) := by simp only [f_MO_known, if_neg h77_0, if_neg h77_1, if_pos h77_2]
    exact v_endI hend dX8_known_162 e9 rfl
  by_cases h77_3 : (xa &&& 127) = 35
  ·
    refine v_lsw (off := 153) X 230 dX8_known_77 (by decide) (by rw [h77_3] <;> rfl) (by decide) ?_
    refine v_iload_n X 4 dX8_known_230 rfl rfl ?_
    refine v_iconst (v := 2) X dX8_known_231 (by decide) ?_
    refine v_suff (pc2 := 250) (lv2 := [(7, .int ((if 16 ≤ ((ushr xa 20) &&& 31) then 0 else 1) : Int32)), (6, .int ((if 16 ≤ ((ushr xa 15) &&& 31) then 0 else 1) : Int32)), (5, .int ((if 16 ≤ ((ushr xa 7) &&& 31) then 0 else 1) : Int32)), (4, .int (ushr xa 25)), (3, .int ((ushr xa 12) &&& 7)), (2, .int (xa &&& 127)), (0, .ref (rh iMO)), (1, .int xa)]) (st2 := [.int ((if ((ushr xa 12) &&& 7) = 2 then (if ((if 16 ≤ ((ushr xa 15) &&& 31) then 0 else 1) : Int32) = 0 then 0 else (if ((if 16 ≤ ((ushr xa 20) &&& 31) then 0 else 1) : Int32) = 0 then 0 else 1)) else 0) : Int32)]) (σ2 := σ) ?_ (fun J232 => ?_)
    rotate_left
    ·
      refine v_icmp_ne X 249 dX8_known_232 (by decide) (fun h232 => ?_) (fun h232 => ?_)
      ·
        refine v_iconst (v := 0) X dX8_known_249 (by decide) ?_
        have e9 : (((if ((ushr xa 12) &&& 7) = 2 then (if ((if 16 ≤ ((ushr xa 15) &&& 31) then 0 else 1) : Int32) = 0 then 0 else (if ((if 16 ≤ ((ushr xa 20) &&& 31) then 0 else 1) : Int32) = 0 then 0 else 1)) else 0) : Int32) : Int32) = 0 := by simp only [if_neg h232]
        rw [e9] at J232
        exact J232
      ·
        refine v_iload X 1 dX8_known_235 rfl ?_
        refine v_if_eq X 249 dX8_known_237 (by decide) (fun h237 => ?_) (fun h237 => ?_)
        ·
          refine v_iconst (v := 0) X dX8_known_249 (by decide) ?_
          have e9 : (((if ((ushr xa 12) &&& 7) = 2 then (if ((if 16 ≤ ((ushr xa 15) &&& 31) then 0 else 1) : Int32) = 0 then 0 else (if ((if 16 ≤ ((ushr xa 20) &&& 31) then 0 else 1) : Int32) = 0 then 0 else 1)) else 0) : Int32) : Int32) = 0 := by simp only [if_pos h232, if_pos h237]
          rw [e9] at J232
          exact J232
        ·
          refine v_iload X 0 dX8_known_240 rfl ?_
          refine v_if_eq X 249 dX8_known_242 (by decide) (fun h242 => ?_) (fun h242 => ?_)
          ·
            refine v_iconst (v := 0) X dX8_known_249 (by decide) ?_
            have e9 : (((if ((ushr xa 12) &&& 7) = 2 then (if ((if 16 ≤ ((ushr xa 15) &&& 31) then 0 else 1) : Int32) = 0 then 0 else (if ((if 16 ≤ ((ushr xa 20) &&& 31) then 0 else 1) : Int32) = 0 then 0 else 1)) else 0) : Int32) : Int32) = 0 := by simp only [if_pos h232, if_neg h237, if_pos h242]
            rw [e9] at J232
            exact J232
          ·
            refine v_iconst (v := 1) X dX8_known_245 (by decide) ?_
            refine v_goto (tgt := 250) X dX8_known_246 (by decide) ?_
            have e9 : (((if ((ushr xa 12) &&& 7) = 2 then (if ((if 16 ≤ ((ushr xa 15) &&& 31) then 0 else 1) : Int32) = 0 then 0 else (if ((if 16 ≤ ((ushr xa 20) &&& 31) then 0 else 1) : Int32) = 0 then 0 else 1)) else 0) : Int32) : Int32) = 1 := by simp only [if_pos h232, if_neg h237, if_neg h242]
            rw [e9] at J232
            exact J232
    have e9 : f_MO_known xa = ((if ((ushr xa 12) &&& 7) = 2 then (if ((if 16 ≤ ((ushr xa 15) &&& 31) then 0 else 1) : Int32) = 0 then 0 else (if ((if 16 ≤ ((ushr xa 20) &&& 31) then 0 else 1) : Int32) = 0 then 0 else 1)) else 0) : Int32) := by simp only [f_MO_known, if_neg h77_0, if_neg h77_1, if_neg h77_2, if_pos h77_3]
    exact v_endI hend dX8_known_250 e9 rfl
  by_cases h77_4 : (xa &&& 127) = 51
  ·
    refine v_lsw (off := 217) X 294 dX8_known_77 (by decide) (by rw [h77_4] <;> rfl) (by decide) ?_
    refine v_iload X 2 dX8_known_294 rfl ?_
    refine v_suff (pc2 := 335) (lv2 := [(7, .int ((if 16 ≤ ((ushr xa 20) &&& 31) then 0 else 1) : Int32)), (6, .int ((if 16 ≤ ((ushr xa 15) &&& 31) then 0 else 1) : Int32)), (5, .int ((if 16 ≤ ((ushr xa 7) &&& 31) then 0 else 1) : Int32)), (4, .int (ushr xa 25)), (3, .int ((ushr xa 12) &&& 7)), (2, .int (xa &&& 127)), (0, .ref (rh iMO)), (1, .int xa)]) (st2 := [.int ((if ((if 16 ≤ ((ushr xa 7) &&& 31) then 0 else 1) : Int32) = 0 then 0 else (if ((if 16 ≤ ((ushr xa 15) &&& 31) then 0 else 1) : Int32) = 0 then 0 else (if ((if 16 ≤ ((ushr xa 20) &&& 31) then 0 else 1) : Int32) = 0 then 0 else (if (ushr xa 25) = 0 then 1 else (if (ushr xa 25) = 32 then (if ((ushr xa 12) &&& 7) = 0 then 1 else (if ((ushr xa 12) &&& 7) = 5 then 1 else 0)) else 0))))) : Int32)]) (σ2 := σ) ?_ (fun J296 => ?_)
    rotate_left
    ·
      refine v_if_eq X 334 dX8_known_296 (by decide) (fun h296 => ?_) (fun h296 => ?_)
      ·
        refine v_iconst (v := 0) X dX8_known_334 (by decide) ?_
        have e9 : (((if ((if 16 ≤ ((ushr xa 7) &&& 31) then 0 else 1) : Int32) = 0 then 0 else (if ((if 16 ≤ ((ushr xa 15) &&& 31) then 0 else 1) : Int32) = 0 then 0 else (if ((if 16 ≤ ((ushr xa 20) &&& 31) then 0 else 1) : Int32) = 0 then 0 else (if (ushr xa 25) = 0 then 1 else (if (ushr xa 25) = 32 then (if ((ushr xa 12) &&& 7) = 0 then 1 else (if ((ushr xa 12) &&& 7) = 5 then 1 else 0)) else 0))))) : Int32) : Int32) = 0 := by simp only [if_pos h296]
        rw [e9] at J296
        exact J296
      ·
        refine v_iload X 1 dX8_known_299 rfl ?_
        refine v_if_eq X 334 dX8_known_301 (by decide) (fun h301 => ?_) (fun h301 => ?_)
        ·
          refine v_iconst (v := 0) X dX8_known_334 (by decide) ?_
          have e9 : (((if ((if 16 ≤ ((ushr xa 7) &&& 31) then 0 else 1) : Int32) = 0 then 0 else (if ((if 16 ≤ ((ushr xa 15) &&& 31) then 0 else 1) : Int32) = 0 then 0 else (if ((if 16 ≤ ((ushr xa 20) &&& 31) then 0 else 1) : Int32) = 0 then 0 else (if (ushr xa 25) = 0 then 1 else (if (ushr xa 25) = 32 then (if ((ushr xa 12) &&& 7) = 0 then 1 else (if ((ushr xa 12) &&& 7) = 5 then 1 else 0)) else 0))))) : Int32) : Int32) = 0 := by simp only [if_neg h296, if_pos h301]
          rw [e9] at J296
          exact J296
        ·
          refine v_iload X 0 dX8_known_304 rfl ?_
          refine v_if_eq X 334 dX8_known_306 (by decide) (fun h306 => ?_) (fun h306 => ?_)
          ·
            refine v_iconst (v := 0) X dX8_known_334 (by decide) ?_
            have e9 : (((if ((if 16 ≤ ((ushr xa 7) &&& 31) then 0 else 1) : Int32) = 0 then 0 else (if ((if 16 ≤ ((ushr xa 15) &&& 31) then 0 else 1) : Int32) = 0 then 0 else (if ((if 16 ≤ ((ushr xa 20) &&& 31) then 0 else 1) : Int32) = 0 then 0 else (if (ushr xa 25) = 0 then 1 else (if (ushr xa 25) = 32 then (if ((ushr xa 12) &&& 7) = 0 then 1 else (if ((ushr xa 12) &&& 7) = 5 then 1 else 0)) else 0))))) : Int32) : Int32) = 0 := by simp only [if_neg h296, if_neg h301, if_pos h306]
            rw [e9] at J296
            exact J296
          ·
            refine v_iload X 3 dX8_known_309 rfl ?_
            refine v_if_eq X 330 dX8_known_311 (by decide) (fun h311 => ?_) (fun h311 => ?_)
            ·
              refine v_iconst (v := 1) X dX8_known_330 (by decide) ?_
              refine v_goto (tgt := 335) X dX8_known_331 (by decide) ?_
              have e9 : (((if ((if 16 ≤ ((ushr xa 7) &&& 31) then 0 else 1) : Int32) = 0 then 0 else (if ((if 16 ≤ ((ushr xa 15) &&& 31) then 0 else 1) : Int32) = 0 then 0 else (if ((if 16 ≤ ((ushr xa 20) &&& 31) then 0 else 1) : Int32) = 0 then 0 else (if (ushr xa 25) = 0 then 1 else (if (ushr xa 25) = 32 then (if ((ushr xa 12) &&& 7) = 0 then 1 else (if ((ushr xa 12) &&& 7) = 5 then 1 else 0)) else 0))))) : Int32) : Int32) = 1 := by simp only [if_neg h296, if_neg h301, if_neg h306, if_pos h311]
              rw [e9] at J296
              exact J296
            ·
              refine v_iload X 3 dX8_known_314 rfl ?_
              refine v_bipush (v := 32) X dX8_known_316 (by decide) ?_
              refine v_icmp_ne X 334 dX8_known_318 (by decide) (fun h318 => ?_) (fun h318 => ?_)
              ·
                refine v_iconst (v := 0) X dX8_known_334 (by decide) ?_
                have e9 : (((if ((if 16 ≤ ((ushr xa 7) &&& 31) then 0 else 1) : Int32) = 0 then 0 else (if ((if 16 ≤ ((ushr xa 15) &&& 31) then 0 else 1) : Int32) = 0 then 0 else (if ((if 16 ≤ ((ushr xa 20) &&& 31) then 0 else 1) : Int32) = 0 then 0 else (if (ushr xa 25) = 0 then 1 else (if (ushr xa 25) = 32 then (if ((ushr xa 12) &&& 7) = 0 then 1 else (if ((ushr xa 12) &&& 7) = 5 then 1 else 0)) else 0))))) : Int32) : Int32) = 0 := by simp only [if_neg h296, if_neg h301, if_neg h306, if_neg h311, if_neg h318]
                rw [e9] at J296
                exact J296
              ·
                refine v_iload_n X 4 dX8_known_321 rfl rfl ?_
                refine v_if_eq X 330 dX8_known_322 (by decide) (fun h322 => ?_) (fun h322 => ?_)
                ·
                  refine v_iconst (v := 1) X dX8_known_330 (by decide) ?_
                  refine v_goto (tgt := 335) X dX8_known_331 (by decide) ?_
                  have e9 : (((if ((if 16 ≤ ((ushr xa 7) &&& 31) then 0 else 1) : Int32) = 0 then 0 else (if ((if 16 ≤ ((ushr xa 15) &&& 31) then 0 else 1) : Int32) = 0 then 0 else (if ((if 16 ≤ ((ushr xa 20) &&& 31) then 0 else 1) : Int32) = 0 then 0 else (if (ushr xa 25) = 0 then 1 else (if (ushr xa 25) = 32 then (if ((ushr xa 12) &&& 7) = 0 then 1 else (if ((ushr xa 12) &&& 7) = 5 then 1 else 0)) else 0))))) : Int32) : Int32) = 1 := by simp only [if_neg h296, if_neg h301, if_neg h306, if_neg h311, if_pos h318, if_pos h322]
                  rw [e9] at J296
                  exact J296
                ·
                  refine v_iload_n X 4 dX8_known_325 rfl rfl ?_
                  refine v_iconst (v := 5) X dX8_known_326 (by decide) ?_
                  refine v_icmp_ne X 334 dX8_known_327 (by decide) (fun h327 => ?_) (fun h327 => ?_)
                  ·
                    refine v_iconst (v := 0) X dX8_known_334 (by decide) ?_
                    have e9 : (((if ((if 16 ≤ ((ushr xa 7) &&& 31) then 0 else 1) : Int32) = 0 then 0 else (if ((if 16 ≤ ((ushr xa 15) &&& 31) then 0 else 1) : Int32) = 0 then 0 else (if ((if 16 ≤ ((ushr xa 20) &&& 31) then 0 else 1) : Int32) = 0 then 0 else (if (ushr xa 25) = 0 then 1 else (if (ushr xa 25) = 32 then (if ((ushr xa 12) &&& 7) = 0 then 1 else (if ((ushr xa 12) &&& 7) = 5 then 1 else 0)) else 0))))) : Int32) : Int32) = 0 := by simp only [if_neg h296, if_neg h301, if_neg h306, if_neg h311, if_pos h318, if_neg h322, if_neg h327]
                    rw [e9] at J296
                    exact J296
                  ·
                    refine v_iconst (v := 1) X dX8_known_330 (by decide) ?_
                    refine v_goto (tgt := 335) X dX8_known_331 (by decide) ?_
                    have e9 : (((if ((if 16 ≤ ((ushr xa 7) &&& 31) then 0 else 1) : Int32) = 0 then 0 else (if ((if 16 ≤ ((ushr xa 15) &&& 31) then 0 else 1) : Int32) = 0 then 0 else (if ((if 16 ≤ ((ushr xa 20) &&& 31) then 0 else 1) : Int32) = 0 then 0 else (if (ushr xa 25) = 0 then 1 else (if (ushr xa 25) = 32 then (if ((ushr xa 12) &&& 7) = 0 then 1 else (if ((ushr xa 12) &&& 7) = 5 then 1 else 0)) else 0))))) : Int32) : Int32) = 1 := by simp only [if_neg h296, if_neg h301, if_neg h306, if_neg h311, if_pos h318, if_neg h322, if_pos h327]
                    rw [e9] at J296
                    exact J296
    have e9 : f_MO_known xa = ((if ((if 16 ≤ ((ushr xa 7) &&& 31) then 0 else 1) : Int32) = 0 then 0 else (if ((if 16 ≤ ((ushr xa 15) &&& 31) then 0 else 1) : Int32) = 0 then 0 else (if ((if 16 ≤ ((ushr xa 20) &&& 31) then 0 else 1) : Int32) = 0 then 0 else (if (ushr xa 25) = 0 then 1 else (if (ushr xa 25) = 32 then (if ((ushr xa 12) &&& 7) = 0 then 1 else (if ((ushr xa 12) &&& 7) = 5 then 1 else 0)) else 0))))) : Int32) := by simp only [f_MO_known, if_neg h77_0, if_neg h77_1, if_neg h77_2, if_neg h77_3, if_pos h77_4]
    exact v_endI hend dX8_known_335 e9 rfl
  by_cases h77_5 : (xa &&& 127) = 55
  ·
    refine v_lsw (off := 83) X 160 dX8_known_77 (by decide) (by rw [h77_5] <;> rfl) (by decide) ?_
    refine v_iload X 2 dX8_known_160 rfl ?_
    have e9 : f_MO_known xa = ((if 16 ≤ ((ushr xa 7) &&& 31) then 0 else 1) : Int32) := by simp only [f_MO_known, if_neg h77_0, if_neg h77_1, if_neg h77_2, if_neg h77_3, if_neg h77_4, if_pos h77_5]
    exact v_endI hend dX8_known_162 e9 rfl
  by_cases h77_6 : (xa &&& 127) = 99
  ·
    refine v_lsw (off := 106) X 183 dX8_known_77 (by decide) (by rw [h77_6] <;> rfl) (by decide) ?_
    refine v_iload_n X 4 dX8_known_183 rfl rfl ?_
    refine v_iconst (v := 2) X dX8_known_184 (by decide) ?_
    refine v_suff (pc2 := 208) (lv2 := [(7, .int ((if 16 ≤ ((ushr xa 20) &&& 31) then 0 else 1) : Int32)), (6, .int ((if 16 ≤ ((ushr xa 15) &&& 31) then 0 else 1) : Int32)), (5, .int ((if 16 ≤ ((ushr xa 7) &&& 31) then 0 else 1) : Int32)), (4, .int (ushr xa 25)), (3, .int ((ushr xa 12) &&& 7)), (2, .int (xa &&& 127)), (0, .ref (rh iMO)), (1, .int xa)]) (st2 := [.int ((if ((ushr xa 12) &&& 7) = 2 then 0 else (if ((ushr xa 12) &&& 7) = 3 then 0 else (if ((if 16 ≤ ((ushr xa 15) &&& 31) then 0 else 1) : Int32) = 0 then 0 else (if ((if 16 ≤ ((ushr xa 20) &&& 31) then 0 else 1) : Int32) = 0 then 0 else 1)))) : Int32)]) (σ2 := σ) ?_ (fun J185 => ?_)
    rotate_left
    ·
      refine v_icmp_eq X 207 dX8_known_185 (by decide) (fun h185 => ?_) (fun h185 => ?_)
      ·
        refine v_iconst (v := 0) X dX8_known_207 (by decide) ?_
        have e9 : (((if ((ushr xa 12) &&& 7) = 2 then 0 else (if ((ushr xa 12) &&& 7) = 3 then 0 else (if ((if 16 ≤ ((ushr xa 15) &&& 31) then 0 else 1) : Int32) = 0 then 0 else (if ((if 16 ≤ ((ushr xa 20) &&& 31) then 0 else 1) : Int32) = 0 then 0 else 1)))) : Int32) : Int32) = 0 := by simp only [if_pos h185]
        rw [e9] at J185
        exact J185
      ·
        refine v_iload_n X 4 dX8_known_188 rfl rfl ?_
        refine v_iconst (v := 3) X dX8_known_189 (by decide) ?_
        refine v_icmp_eq X 207 dX8_known_190 (by decide) (fun h190 => ?_) (fun h190 => ?_)
        ·
          refine v_iconst (v := 0) X dX8_known_207 (by decide) ?_
          have e9 : (((if ((ushr xa 12) &&& 7) = 2 then 0 else (if ((ushr xa 12) &&& 7) = 3 then 0 else (if ((if 16 ≤ ((ushr xa 15) &&& 31) then 0 else 1) : Int32) = 0 then 0 else (if ((if 16 ≤ ((ushr xa 20) &&& 31) then 0 else 1) : Int32) = 0 then 0 else 1)))) : Int32) : Int32) = 0 := by simp only [if_neg h185, if_pos h190]
          rw [e9] at J185
          exact J185
        ·
          refine v_iload X 1 dX8_known_193 rfl ?_
          refine v_if_eq X 207 dX8_known_195 (by decide) (fun h195 => ?_) (fun h195 => ?_)
          ·
            refine v_iconst (v := 0) X dX8_known_207 (by decide) ?_
            have e9 : (((if ((ushr xa 12) &&& 7) = 2 then 0 else (if ((ushr xa 12) &&& 7) = 3 then 0 else (if ((if 16 ≤ ((ushr xa 15) &&& 31) then 0 else 1) : Int32) = 0 then 0 else (if ((if 16 ≤ ((ushr xa 20) &&& 31) then 0 else 1) : Int32) = 0 then 0 else 1)))) : Int32) : Int32) = 0 := by simp only [if_neg h185, if_neg h190, if_pos h195]
            rw [e9] at J185
            exact J185
          ·
            refine v_iload X 0 dX8_known_198 rfl ?_
            refine v_if_eq X 207 dX8_known_200 (by decide) (fun h200 => ?_) (fun h200 => ?_)
            ·
              refine v_iconst (v := 0) X dX8_known_207 (by decide) ?_
              have e9 : (((if ((ushr xa 12) &&& 7) = 2 then 0 else (if ((ushr xa 12) &&& 7) = 3 then 0 else (if ((if 16 ≤ ((ushr xa 15) &&& 31) then 0 else 1) : Int32) = 0 then 0 else (if ((if 16 ≤ ((ushr xa 20) &&& 31) then 0 else 1) : Int32) = 0 then 0 else 1)))) : Int32) : Int32) = 0 := by simp only [if_neg h185, if_neg h190, if_neg h195, if_pos h200]
              rw [e9] at J185
              exact J185
            ·
              refine v_iconst (v := 1) X dX8_known_203 (by decide) ?_
              refine v_goto (tgt := 208) X dX8_known_204 (by decide) ?_
              have e9 : (((if ((ushr xa 12) &&& 7) = 2 then 0 else (if ((ushr xa 12) &&& 7) = 3 then 0 else (if ((if 16 ≤ ((ushr xa 15) &&& 31) then 0 else 1) : Int32) = 0 then 0 else (if ((if 16 ≤ ((ushr xa 20) &&& 31) then 0 else 1) : Int32) = 0 then 0 else 1)))) : Int32) : Int32) = 1 := by simp only [if_neg h185, if_neg h190, if_neg h195, if_neg h200]
              rw [e9] at J185
              exact J185
    have e9 : f_MO_known xa = ((if ((ushr xa 12) &&& 7) = 2 then 0 else (if ((ushr xa 12) &&& 7) = 3 then 0 else (if ((if 16 ≤ ((ushr xa 15) &&& 31) then 0 else 1) : Int32) = 0 then 0 else (if ((if 16 ≤ ((ushr xa 20) &&& 31) then 0 else 1) : Int32) = 0 then 0 else 1)))) : Int32) := by simp only [f_MO_known, if_neg h77_0, if_neg h77_1, if_neg h77_2, if_neg h77_3, if_neg h77_4, if_neg h77_5, if_pos h77_6]
    exact v_endI hend dX8_known_208 e9 rfl
  by_cases h77_7 : (xa &&& 127) = 103
  ·
    refine v_lsw (off := 86) X 163 dX8_known_77 (by decide) (by rw [h77_7] <;> rfl) (by decide) ?_
    refine v_iload_n X 4 dX8_known_163 rfl rfl ?_
    refine v_suff (pc2 := 182) (lv2 := [(7, .int ((if 16 ≤ ((ushr xa 20) &&& 31) then 0 else 1) : Int32)), (6, .int ((if 16 ≤ ((ushr xa 15) &&& 31) then 0 else 1) : Int32)), (5, .int ((if 16 ≤ ((ushr xa 7) &&& 31) then 0 else 1) : Int32)), (4, .int (ushr xa 25)), (3, .int ((ushr xa 12) &&& 7)), (2, .int (xa &&& 127)), (0, .ref (rh iMO)), (1, .int xa)]) (st2 := [.int ((if ((ushr xa 12) &&& 7) = 0 then (if ((if 16 ≤ ((ushr xa 7) &&& 31) then 0 else 1) : Int32) = 0 then 0 else (if ((if 16 ≤ ((ushr xa 15) &&& 31) then 0 else 1) : Int32) = 0 then 0 else 1)) else 0) : Int32)]) (σ2 := σ) ?_ (fun J164 => ?_)
    rotate_left
    ·
      refine v_if_ne X 181 dX8_known_164 (by decide) (fun h164 => ?_) (fun h164 => ?_)
      ·
        refine v_iconst (v := 0) X dX8_known_181 (by decide) ?_
        have e9 : (((if ((ushr xa 12) &&& 7) = 0 then (if ((if 16 ≤ ((ushr xa 7) &&& 31) then 0 else 1) : Int32) = 0 then 0 else (if ((if 16 ≤ ((ushr xa 15) &&& 31) then 0 else 1) : Int32) = 0 then 0 else 1)) else 0) : Int32) : Int32) = 0 := by simp only [if_neg h164]
        rw [e9] at J164
        exact J164
      ·
        refine v_iload X 2 dX8_known_167 rfl ?_
        refine v_if_eq X 181 dX8_known_169 (by decide) (fun h169 => ?_) (fun h169 => ?_)
        ·
          refine v_iconst (v := 0) X dX8_known_181 (by decide) ?_
          have e9 : (((if ((ushr xa 12) &&& 7) = 0 then (if ((if 16 ≤ ((ushr xa 7) &&& 31) then 0 else 1) : Int32) = 0 then 0 else (if ((if 16 ≤ ((ushr xa 15) &&& 31) then 0 else 1) : Int32) = 0 then 0 else 1)) else 0) : Int32) : Int32) = 0 := by simp only [if_pos h164, if_pos h169]
          rw [e9] at J164
          exact J164
        ·
          refine v_iload X 1 dX8_known_172 rfl ?_
          refine v_if_eq X 181 dX8_known_174 (by decide) (fun h174 => ?_) (fun h174 => ?_)
          ·
            refine v_iconst (v := 0) X dX8_known_181 (by decide) ?_
            have e9 : (((if ((ushr xa 12) &&& 7) = 0 then (if ((if 16 ≤ ((ushr xa 7) &&& 31) then 0 else 1) : Int32) = 0 then 0 else (if ((if 16 ≤ ((ushr xa 15) &&& 31) then 0 else 1) : Int32) = 0 then 0 else 1)) else 0) : Int32) : Int32) = 0 := by simp only [if_pos h164, if_neg h169, if_pos h174]
            rw [e9] at J164
            exact J164
          ·
            refine v_iconst (v := 1) X dX8_known_177 (by decide) ?_
            refine v_goto (tgt := 182) X dX8_known_178 (by decide) ?_
            have e9 : (((if ((ushr xa 12) &&& 7) = 0 then (if ((if 16 ≤ ((ushr xa 7) &&& 31) then 0 else 1) : Int32) = 0 then 0 else (if ((if 16 ≤ ((ushr xa 15) &&& 31) then 0 else 1) : Int32) = 0 then 0 else 1)) else 0) : Int32) : Int32) = 1 := by simp only [if_pos h164, if_neg h169, if_neg h174]
            rw [e9] at J164
            exact J164
    have e9 : f_MO_known xa = ((if ((ushr xa 12) &&& 7) = 0 then (if ((if 16 ≤ ((ushr xa 7) &&& 31) then 0 else 1) : Int32) = 0 then 0 else (if ((if 16 ≤ ((ushr xa 15) &&& 31) then 0 else 1) : Int32) = 0 then 0 else 1)) else 0) : Int32) := by simp only [f_MO_known, if_neg h77_0, if_neg h77_1, if_neg h77_2, if_neg h77_3, if_neg h77_4, if_neg h77_5, if_neg h77_6, if_pos h77_7]
    exact v_endI hend dX8_known_182 e9 rfl
  by_cases h77_8 : (xa &&& 127) = 111
  ·
    refine v_lsw (off := 83) X 160 dX8_known_77 (by decide) (by rw [h77_8] <;> rfl) (by decide) ?_
    refine v_iload X 2 dX8_known_160 rfl ?_
    have e9 : f_MO_known xa = ((if 16 ≤ ((ushr xa 7) &&& 31) then 0 else 1) : Int32) := by simp only [f_MO_known, if_neg h77_0, if_neg h77_1, if_neg h77_2, if_neg h77_3, if_neg h77_4, if_neg h77_5, if_neg h77_6, if_neg h77_7, if_pos h77_8]
    exact v_endI hend dX8_known_162 e9 rfl
  refine v_lsw (off := 259) X 336 dX8_known_77 (by decide) (by rw [lv_osw h77_0 (by decide)]; rw [lv_osw h77_1 (by decide)]; rw [lv_osw h77_2 (by decide)]; rw [lv_osw h77_3 (by decide)]; rw [lv_osw h77_4 (by decide)]; rw [lv_osw h77_5 (by decide)]; rw [lv_osw h77_6 (by decide)]; rw [lv_osw h77_7 (by decide)]; rw [lv_osw h77_8 (by decide)] <;> rfl) (by decide) ?_
  refine v_iload_n X 7 dX8_known_336 rfl rfl ?_
  refine v_bipush (v := 115) X dX8_known_337 (by decide) ?_
  refine v_suff (pc2 := 353) (lv2 := [(7, .int ((if 16 ≤ ((ushr xa 20) &&& 31) then 0 else 1) : Int32)), (6, .int ((if 16 ≤ ((ushr xa 15) &&& 31) then 0 else 1) : Int32)), (5, .int ((if 16 ≤ ((ushr xa 7) &&& 31) then 0 else 1) : Int32)), (4, .int (ushr xa 25)), (3, .int ((ushr xa 12) &&& 7)), (2, .int (xa &&& 127)), (0, .ref (rh iMO)), (1, .int xa)]) (st2 := [.int ((if xa = 115 then 1 else (if xa = 1048691 then 1 else 0)) : Int32)]) (σ2 := σ) ?_ (fun J339 => ?_)
  rotate_left
  ·
    refine v_icmp_eq X 348 dX8_known_339 (by decide) (fun h339 => ?_) (fun h339 => ?_)
    ·
      refine v_iconst (v := 1) X dX8_known_348 (by decide) ?_
      refine v_goto (tgt := 353) X dX8_known_349 (by decide) ?_
      have e9 : (((if xa = 115 then 1 else (if xa = 1048691 then 1 else 0)) : Int32) : Int32) = 1 := by simp only [if_pos h339]
      rw [e9] at J339
      exact J339
    ·
      refine v_iload_n X 7 dX8_known_342 rfl rfl ?_
      refine v_ldc (v := 1048691) X wk_MO_136 dX8_known_343 ?_
      refine v_icmp_ne X 352 dX8_known_345 (by decide) (fun h345 => ?_) (fun h345 => ?_)
      ·
        refine v_iconst (v := 0) X dX8_known_352 (by decide) ?_
        have e9 : (((if xa = 115 then 1 else (if xa = 1048691 then 1 else 0)) : Int32) : Int32) = 0 := by simp only [if_neg h339, if_neg h345]
        rw [e9] at J339
        exact J339
      ·
        refine v_iconst (v := 1) X dX8_known_348 (by decide) ?_
        refine v_goto (tgt := 353) X dX8_known_349 (by decide) ?_
        have e9 : (((if xa = 115 then 1 else (if xa = 1048691 then 1 else 0)) : Int32) : Int32) = 1 := by simp only [if_neg h339, if_pos h345]
        rw [e9] at J339
        exact J339
  have e9 : f_MO_known xa = ((if xa = 115 then 1 else (if xa = 1048691 then 1 else 0)) : Int32) := by simp only [f_MO_known, if_neg h77_0, if_neg h77_1, if_neg h77_2, if_neg h77_3, if_neg h77_4, if_neg h77_5, if_neg h77_6, if_neg h77_7, if_neg h77_8]
  exact v_endI hend dX8_known_353 e9 rfl
def f_MO_at (xa : Int32) : Int32 :=
  ((if xa < 4096 then (-1) else (if 4108 < xa then (-1) else ((xa - 4096) / 4))) : Int32)
set_option maxHeartbeats 4000000 in
set_option maxRecDepth 100000 in
theorem c_MO_at (xa : Int32) (σ : St) : CI l D (tyL cA) rh (rcW rh cA) NW yX8_at cX8_at 2 .int 0 [.ref (rh iMO), .int xa] σ (f_MO_at xa) σ := by
  refine CI.of rfl (Nat.le_of_ble_eq_true rfl) rfl ?_
  intro p9 e s m args below meth c A Q X hend
  refine v_lv (lv' := [(0, .ref (rh iMO)), (1, .int xa)]) [0, 1] rfl ?_
  refine v_iload_n X 1 dX8_at_0 rfl rfl ?_
  refine v_sipush (v := 4096) X dX8_at_1 (by decide) ?_
  refine v_suff (pc2 := 25) (lv2 := [(0, .ref (rh iMO)), (1, .int xa)]) (st2 := [.int ((if xa < 4096 then (-1) else (if 4108 < xa then (-1) else ((xa - 4096) / 4))) : Int32)]) (σ2 := σ) ?_ (fun J4 => ?_)
  rotate_left
  ·
    refine v_icmp_lt X 24 dX8_at_4 (by decide) (fun h4 => ?_) (fun h4 => ?_)
    ·
      refine v_iconst (v := (-1)) X dX8_at_24 (by decide) ?_
      have e9 : (((if xa < 4096 then (-1) else (if 4108 < xa then (-1) else ((xa - 4096) / 4))) : Int32) : Int32) = (-1) := by simp only [if_pos h4]
      rw [e9] at J4
      exact J4
    ·
      refine v_iload_n X 1 dX8_at_7 rfl rfl ?_
      refine v_sipush (v := 4108) X dX8_at_8 (by decide) ?_
      refine v_icmp_gt X 24 dX8_at_11 (by decide) (fun h11 => ?_) (fun h11 => ?_)
      ·
        refine v_iconst (v := (-1)) X dX8_at_24 (by decide) ?_
        have e9 : (((if xa < 4096 then (-1) else (if 4108 < xa then (-1) else ((xa - 4096) / 4))) : Int32) : Int32) = (-1) := by simp only [if_neg h4, if_pos h11]
        rw [e9] at J4
        exact J4
      ·
        refine v_iload_n X 1 dX8_at_14 rfl rfl ?_
        refine v_sipush (v := 4096) X dX8_at_15 (by decide) ?_
        refine v_isub X dX8_at_18 ?_
        refine v_iconst (v := 4) X dX8_at_19 (by decide) ?_
        refine v_idiv X (by decide) dX8_at_20 ?_
        refine v_goto (tgt := 25) X dX8_at_21 (by decide) ?_
        have e9 : (((if xa < 4096 then (-1) else (if 4108 < xa then (-1) else ((xa - 4096) / 4))) : Int32) : Int32) = ((xa - 4096) / 4) := by simp only [if_neg h4, if_neg h11]
        rw [e9] at J4
        exact J4
  have e9 : f_MO_at xa = ((if xa < 4096 then (-1) else (if 4108 < xa then (-1) else ((xa - 4096) / 4))) : Int32) := by simp only [f_MO_at]
  exact v_endI hend dX8_at_25 e9 rfl
def f_MO_inside (xa : Int32) (xb : Int32) (σ : St) : Int32 :=
  ((if xb < 0 then 0 else (if ((4 * (σ i_size (xa).toNatClampNeg)) - 4) < xb then 0 else 1)) : Int32)
theorem z_MO_inside (xa : Int32) (xb : Int32) (σ : St) : (f_MO_inside xa xb σ) = 0 ∨ (f_MO_inside xa xb σ) = 1 := by
  unfold f_MO_inside
  repeat' first | with_reducible apply z_ite | with_reducible exact Or.inl rfl | with_reducible exact Or.inr rfl | split
set_option maxHeartbeats 4000000 in
set_option maxRecDepth 100000 in
theorem c_MO_inside (xa : Int32) (xb : Int32) (σ : St) (hq : vp_in xa 4) : CI l D (tyL cA) rh (rcW rh cA) NW yX8_inside cX8_inside 3 .boolean 0 [.ref (rh iMO), .int xa, .int xb] σ (f_MO_inside xa xb σ) σ := by
  refine CI.of rfl (Nat.le_of_ble_eq_true rfl) (zN (z_MO_inside ..)) ?_
  intro p9 e s m args below meth c A Q X hend
  refine v_lv (lv' := [(0, .ref (rh iMO)), (1, .int xa), (2, .int xb)]) [0, 1, 2] rfl ?_
  refine v_iload_n X 2 dX8_inside_0 rfl rfl ?_
  refine v_suff (pc2 := 23) (lv2 := [(0, .ref (rh iMO)), (1, .int xa), (2, .int xb)]) (st2 := [.int ((if xb < 0 then 0 else (if ((4 * (σ i_size (xa).toNatClampNeg)) - 4) < xb then 0 else 1)) : Int32)]) (σ2 := σ) ?_ (fun J1 => ?_)
  rotate_left
  ·
    refine v_if_lt X 22 dX8_inside_1 (by decide) (fun h1 => ?_) (fun h1 => ?_)
    ·
      refine v_iconst (v := 0) X dX8_inside_22 (by decide) ?_
      have e9 : (((if xb < 0 then 0 else (if ((4 * (σ i_size (xa).toNatClampNeg)) - 4) < xb then 0 else 1)) : Int32) : Int32) = 0 := by simp only [if_pos h1]
      rw [e9] at J1
      exact J1
    ·
      refine v_iload_n X 2 dX8_inside_4 rfl rfl ?_
      refine v_iconst (v := 4) X dX8_inside_5 (by decide) ?_
      refine v_aload_n X 0 dX8_inside_6 rfl rfl ?_
      refine v_getR (j := i_size) (i := iMO) (k := 4) X (lt_MO ) (sh_MO ) rfl in_MO (by decide) wf_MO_22 rfl (fun _ => rfl) dX8_inside_7 ?_
      refine v_iload_n X 1 dX8_inside_10 rfl rfl ?_
      have hv11 : vp_in xa 4 := hq
      refine v_iald (i := i_size) (t0 := 0) X (lt_m_size ) (sh_m_size ) rfl hv11 dX8_inside_11 ?_
      refine v_imul X dX8_inside_12 ?_
      refine v_iconst (v := 4) X dX8_inside_13 (by decide) ?_
      refine v_isub X dX8_inside_14 ?_
      refine v_icmp_gt X 22 dX8_inside_15 (by decide) (fun h15 => ?_) (fun h15 => ?_)
      ·
        refine v_iconst (v := 0) X dX8_inside_22 (by decide) ?_
        have e9 : (((if xb < 0 then 0 else (if ((4 * (σ i_size (xa).toNatClampNeg)) - 4) < xb then 0 else 1)) : Int32) : Int32) = 0 := by simp only [if_neg h1, if_pos h15]
        rw [e9] at J1
        exact J1
      ·
        refine v_iconst (v := 1) X dX8_inside_18 (by decide) ?_
        refine v_goto (tgt := 23) X dX8_inside_19 (by decide) ?_
        have e9 : (((if xb < 0 then 0 else (if ((4 * (σ i_size (xa).toNatClampNeg)) - 4) < xb then 0 else 1)) : Int32) : Int32) = 1 := by simp only [if_neg h1, if_neg h15]
        rw [e9] at J1
        exact J1
  have e9 : f_MO_inside xa xb σ = ((if xb < 0 then 0 else (if ((4 * (σ i_size (xa).toNatClampNeg)) - 4) < xb then 0 else 1)) : Int32) := by simp only [f_MO_inside]
  exact v_endI hend dX8_inside_23 e9 rfl
def f_MO_put (xa : Int32) (xb : Int32) (xc : Int32) (σ : St) : St :=
  (if xb = 0 then σ else (up σ i_register (((xa * 16) + xb)).toNatClampNeg xc))
set_option maxHeartbeats 4000000 in
set_option maxRecDepth 100000 in
theorem c_MO_put (xa : Int32) (xb : Int32) (xc : Int32) (σ : St) (hq : vp_in xa 4) (hr : vp_in xb 16) : CV l D (tyL cA) rh (rcW rh cA) NW yX8_put cX8_put 4 0 [.ref (rh iMO), .int xa, .int xb, .int xc] σ (f_MO_put xa xb xc σ) := by
  refine CV.of rfl (Nat.le_of_ble_eq_true rfl) ?_
  intro p9 e s m args below meth c A Q X hend
  refine v_lv (lv' := [(0, .ref (rh iMO)), (1, .int xa), (2, .int xb), (3, .int xc)]) [0, 1, 2, 3] rfl ?_
  refine v_iload_n X 2 dX8_put_0 rfl rfl ?_
  refine v_if_eq X 16 dX8_put_1 (by decide) (fun h1 => ?_) (fun h1 => ?_)
  ·
    have e9 : f_MO_put xa xb xc σ = σ := by simp only [f_MO_put, if_pos h1]
    exact v_endV hend dX8_put_16 e9
  ·
    refine v_aload_n X 0 dX8_put_4 rfl rfl ?_
    refine v_getR (j := i_register) (i := iMO) (k := 2) X (lt_MO ) (sh_MO ) rfl in_MO (by decide) wf_MO_16 rfl (fun _ => rfl) dX8_put_5 ?_
    refine v_iload_n X 1 dX8_put_8 rfl rfl ?_
    refine v_bipush (v := 16) X dX8_put_9 (by decide) ?_
    refine v_imul X dX8_put_11 ?_
    refine v_iload_n X 2 dX8_put_12 rfl rfl ?_
    refine v_iadd X dX8_put_13 ?_
    refine v_iload_n X 3 dX8_put_14 rfl rfl ?_
    have hv15 : vp_in ((xa * 16) + xb) 64 := (vreg hq hr)
    refine v_iast (i := i_register) (t0 := 0) X (lt_m_register ) (sh_m_register ) rfl hv15 dX8_put_15 ?_
    generalize hg15 : (up σ i_register (((xa * 16) + xb)).toNatClampNeg xc) = g15
    have e9 : f_MO_put xa xb xc σ = g15 := by subst hg15; simp only [f_MO_put, if_neg h1]
    exact v_endV hend dX8_put_16 e9
theorem I_MO_put (xa : Int32) (xb : Int32) (xc : Int32) {σ : St} (hI : Im σ) (hq : vp_in xa 4) (hr : vp_in xb 16) : Im (f_MO_put xa xb xc σ) := by
  unfold f_MO_put
  exact (im_ite (fun _ => hI) (fun _ => (Im.upA hI (by decide))))
def lp_MO_clear_9 (xa : Int32) : Nat → Int32 → St → St
  | 0, _, σ => σ
  | k9 + 1, i2, σ => (if 16 ≤ i2 then σ else (lp_MO_clear_9 xa k9 (i2 + 1) (up σ i_register (((xa * 16) + i2)).toNatClampNeg 0)))
set_option maxHeartbeats 4000000 in
set_option maxRecDepth 100000 in
theorem lc_MO_clear_9 (xa : Int32) (hq : vp_in xa 4) {p9 : Program} {e : Env} {s : State} {m : MethodId} {args : Array Value} {below : List Frame} {meth : Method} {c : Code} {A : Nat → Prop} {Q : State → Prop} (X : Cx p9 s m args meth c D (tyL cA) A cX8_clear 3 yX8_clear.cls) : ∀ (k9 : Nat) (i2 : Int32) (σ : St), (hi : 0 ≤ i2.toInt ∧ i2.toInt ≤ 16) → (16 - i2.toInt < (k9 : Int)) → (∀ (pc : Nat) (lv : List (Nat × Value)), decode cX8_clear pc = .ok (.return_, 1) → Vz p9 l e (Rz 0) s m args below meth c D A 3 rh (rcW rh cA) NW 0 0 Q pc lv [] (lp_MO_clear_9 xa k9 i2 σ)) → Vz p9 l e (Rz 0) s m args below meth c D A 3 rh (rcW rh cA) NW 0 0 Q 9 [(0, .ref (rh iMO)), (1, .int xa), (2, .int i2)] [] σ := by
  intro k9
  induction k9 with
  | zero =>
    intro i2 σ hi hmu hend
    exact absurd hmu (by omega)
  | succ k9 ih =>
    intro i2 σ hi hmu hend
    refine v_iload_n X 2 dX8_clear_9 rfl rfl ?_
    refine v_bipush (v := 16) X dX8_clear_10 (by decide) ?_
    refine v_icmp_ge X 33 dX8_clear_12 (by decide) (fun h12 => ?_) (fun h12 => ?_)
    ·
      have e9 : lp_MO_clear_9 xa (k9 + 1) i2 σ = σ := by simp only [lp_MO_clear_9, if_pos h12]
      exact v_endV hend dX8_clear_33 e9
    ·
      refine v_aload_n X 0 dX8_clear_15 rfl rfl ?_
      refine v_getR (j := i_register) (i := iMO) (k := 2) X (lt_MO ) (sh_MO ) rfl in_MO (by decide) wf_MO_16 rfl (fun _ => rfl) dX8_clear_16 ?_
      refine v_iload_n X 1 dX8_clear_19 rfl rfl ?_
      refine v_bipush (v := 16) X dX8_clear_20 (by decide) ?_
      refine v_imul X dX8_clear_22 ?_
      refine v_iload_n X 2 dX8_clear_23 rfl rfl ?_
      refine v_iadd X dX8_clear_24 ?_
      refine v_iconst (v := 0) X dX8_clear_25 (by decide) ?_
      have hv26 : vp_in ((xa * 16) + i2) 64 := (vreg hq (vin_mk hi.1 (nle (by decide) h12)))
      refine v_iast (i := i_register) (t0 := 0) X (lt_m_register ) (sh_m_register ) rfl hv26 dX8_clear_26 ?_
      generalize hg26 : (up σ i_register (((xa * 16) + i2)).toNatClampNeg 0) = g26
      refine v_iinc (v := (i2 + 1)) (lv' := [(2, .int (i2 + 1)), (0, .ref (rh iMO)), (1, .int xa)]) X 2 dX8_clear_27 rfl rfl (by decide) rfl ?_
      refine v_goto (tgt := 9) X dX8_clear_30 (by decide) ?_
      have e9 : lp_MO_clear_9 xa (k9 + 1) i2 σ = lp_MO_clear_9 xa k9 (i2 + 1) g26 := by subst hg26; simp only [lp_MO_clear_9, if_neg h12]
      rw [e9] at hend
      refine v_lv (lv' := [(0, .ref (rh iMO)), (1, .int xa), (2, .int (i2 + 1))]) [1, 2, 0] rfl ?_
      exact ih (i2 + 1) g26 ⟨by have u9 := i_succ h12; omega, by have u9 := i_succ h12; have u8 := h12; rw [ile] at u8; have z : (16 : Int32).toInt = 16 := (by decide); omega⟩ (by have u9 := i_succ h12; omega) hend
def f_MO_clear (xa : Int32) (σ : St) : St :=
  (lp_MO_clear_9 xa 17 0 (up σ i_pc (xa).toNatClampNeg 0))
set_option maxHeartbeats 4000000 in
set_option maxRecDepth 100000 in
theorem c_MO_clear (xa : Int32) (σ : St) (hq : vp_in xa 4) : CV l D (tyL cA) rh (rcW rh cA) NW yX8_clear cX8_clear 3 0 [.ref (rh iMO), .int xa] σ (f_MO_clear xa σ) := by
  refine CV.of rfl (Nat.le_of_ble_eq_true rfl) ?_
  intro p9 e s m args below meth c A Q X hend
  refine v_lv (lv' := [(0, .ref (rh iMO)), (1, .int xa)]) [0, 1] rfl ?_
  refine v_aload_n X 0 dX8_clear_0 rfl rfl ?_
  refine v_getR (j := i_pc) (i := iMO) (k := 6) X (lt_MO ) (sh_MO ) rfl in_MO (by decide) wf_MO_28 rfl (fun _ => rfl) dX8_clear_1 ?_
  refine v_iload_n X 1 dX8_clear_4 rfl rfl ?_
  refine v_iconst (v := 0) X dX8_clear_5 (by decide) ?_
  have hv6 : vp_in xa 4 := hq
  refine v_iast (i := i_pc) (t0 := 0) X (lt_m_pc ) (sh_m_pc ) rfl hv6 dX8_clear_6 ?_
  generalize hg6 : (up σ i_pc (xa).toNatClampNeg 0) = g6
  refine v_iconst (v := 0) X dX8_clear_7 (by decide) ?_
  refine v_istore_n (lv' := [(2, .int 0), (0, .ref (rh iMO)), (1, .int xa)]) X dX8_clear_8 rfl (by decide) rfl ?_
  have e9 : f_MO_clear xa σ = lp_MO_clear_9 xa 17 0 g6 := by subst hg6; simp only [f_MO_clear]
  rw [e9] at hend
  refine v_lv (lv' := [(0, .ref (rh iMO)), (1, .int xa), (2, .int 0)]) [1, 2, 0] rfl ?_
  exact lc_MO_clear_9 xa hq X 17 0 g6 ⟨by decide, by decide⟩ (by decide) hend
theorem Il_MO_clear (xa : Int32) : ∀ (k : Nat) (i : Int32) (σ : St), Im σ → Im (lp_MO_clear_9 xa k i σ) := by
  intro k
  induction k with
  | zero => intro i σ h; exact h
  | succ k ih =>
    intro i σ h
    simp only [lp_MO_clear_9]
    exact im_ite (fun _ => h) (fun _ => ih _ _ (Im.upA h (by decide)))
theorem I_MO_clear (xa : Int32) {σ : St} (hI : Im σ) (hq : vp_in xa 4) : Im (f_MO_clear xa σ) := by
  unfold f_MO_clear
  exact Il_MO_clear xa _ _ _ (Im.upA hI (by decide))
def f_MO_reset (σ : St) : St :=
  (up (up σ iMO 33 ((if (σ iMO 24) = 0 then 1 else 0) : Int32)) iMO 24 0)
set_option maxHeartbeats 4000000 in
set_option maxRecDepth 100000 in
theorem c_MO_reset  (σ : St) : CV l D (tyL cA) rh (rcW rh cA) NW yX8_reset cX8_reset 1 0 [.ref (rh iMO)] σ (f_MO_reset σ) := by
  refine CV.of rfl (Nat.le_of_ble_eq_true rfl) ?_
  intro p9 e s m args below meth c A Q X hend
  refine v_lv (lv' := [(0, .ref (rh iMO))]) [0] rfl ?_
  refine v_aload_n X 0 dX8_reset_0 rfl rfl ?_
  refine v_aload_n X 0 dX8_reset_1 rfl rfl ?_
  refine v_getI (i := iMO) (k := 24) X (lt_MO ) (sh_MO ) rfl in_MO (by decide) wf_MO_88 rfl (fun _ => rfl) dX8_reset_2 ?_
  refine v_suff (pc2 := 13) (lv2 := [(0, .ref (rh iMO))]) (st2 := [.int ((if (σ iMO 24) = 0 then 1 else 0) : Int32), .ref (rh iMO)]) (σ2 := σ) ?_ (fun J5 => ?_)
  rotate_left
  ·
    refine v_if_eq X 12 dX8_reset_5 (by decide) (fun h5 => ?_) (fun h5 => ?_)
    ·
      refine v_iconst (v := 1) X dX8_reset_12 (by decide) ?_
      have e9 : (((if (σ iMO 24) = 0 then 1 else 0) : Int32) : Int32) = 1 := by simp only [if_pos h5]
      rw [e9] at J5
      exact J5
    ·
      refine v_iconst (v := 0) X dX8_reset_8 (by decide) ?_
      refine v_goto (tgt := 13) X dX8_reset_9 (by decide) ?_
      have e9 : (((if (σ iMO 24) = 0 then 1 else 0) : Int32) : Int32) = 0 := by simp only [if_neg h5]
      rw [e9] at J5
      exact J5
  refine v_put (i := iMO) (k := 33) (x := ((if (σ iMO 24) = 0 then 1 else 0) : Int32)) (ty := .int) X (lt_MO ) (sh_MO ) rfl in_MO (by decide) tyX8 tyX8_ok nX8 wf_MO_84 rfl rfl rfl rfl rfl (fun _ => Nat.le_of_ble_eq_true rfl) (fun _ _ => rfl) dX8_reset_13 ?_
  generalize hg13 : (up σ iMO 33 ((if (σ iMO 24) = 0 then 1 else 0) : Int32)) = g13
  refine v_aload_n X 0 dX8_reset_16 rfl rfl ?_
  refine v_iconst (v := 0) X dX8_reset_17 (by decide) ?_
  refine v_put (i := iMO) (k := 24) (x := 0) (ty := .boolean) X (lt_MO ) (sh_MO ) rfl in_MO (by decide) tyX8 tyX8_ok nX8 wf_MO_88 rfl rfl rfl (zN (Or.inl rfl)) (zF (Or.inl rfl)) (fun _ => Nat.le_of_ble_eq_true rfl) (fun _ _ => rfl) dX8_reset_18 ?_
  generalize hg18 : (up g13 iMO 24 0) = g18
  have e9 : f_MO_reset σ = g18 := by subst hg13; subst hg18; simp only [f_MO_reset]
  exact v_endV hend dX8_reset_21 e9
-- no I_MO_reset
def f_MO_quote (xa : Int32) (σ : St) : Int32 × St :=
  (((if ((up σ iMO 33 ((if (σ iMO 24) = 0 then 1 else 0) : Int32)) iMO 33) = 0 then (f_MO_mix (f_MO_mix ((up σ iMO 33 ((if (σ iMO 24) = 0 then 1 else 0) : Int32)) iMO 23) xa) ((up σ iMO 33 ((if (σ iMO 24) = 0 then 1 else 0) : Int32)) iMO 30)) else 0) : Int32), (up σ iMO 33 ((if (σ iMO 24) = 0 then 1 else 0) : Int32)))
set_option maxHeartbeats 4000000 in
set_option maxRecDepth 100000 in
theorem c_MO_quote (xa : Int32) (σ : St) : CI l D (tyL cA) rh (rcW rh cA) NW yX8_quote cX8_quote 2 .int 1 [.ref (rh iMO), .int xa] σ (f_MO_quote xa σ).1 (f_MO_quote xa σ).2 := by
  refine CI.of rfl (Nat.le_of_ble_eq_true rfl) rfl ?_
  intro p9 e s m args below meth c A Q X hend
  refine v_lv (lv' := [(0, .ref (rh iMO)), (1, .int xa)]) [0, 1] rfl ?_
  refine v_aload_n X 0 dX8_quote_0 rfl rfl ?_
  refine v_aload_n X 0 dX8_quote_1 rfl rfl ?_
  refine v_getI (i := iMO) (k := 24) X (lt_MO ) (sh_MO ) rfl in_MO (by decide) wf_MO_88 rfl (fun _ => rfl) dX8_quote_2 ?_
  refine v_suff (pc2 := 13) (lv2 := [(0, .ref (rh iMO)), (1, .int xa)]) (st2 := [.int ((if (σ iMO 24) = 0 then 1 else 0) : Int32), .ref (rh iMO)]) (σ2 := σ) ?_ (fun J5 => ?_)
  rotate_left
  ·
    refine v_if_eq X 12 dX8_quote_5 (by decide) (fun h5 => ?_) (fun h5 => ?_)
    ·
      refine v_iconst (v := 1) X dX8_quote_12 (by decide) ?_
      have e9 : (((if (σ iMO 24) = 0 then 1 else 0) : Int32) : Int32) = 1 := by simp only [if_pos h5]
      rw [e9] at J5
      exact J5
    ·
      refine v_iconst (v := 0) X dX8_quote_8 (by decide) ?_
      refine v_goto (tgt := 13) X dX8_quote_9 (by decide) ?_
      have e9 : (((if (σ iMO 24) = 0 then 1 else 0) : Int32) : Int32) = 0 := by simp only [if_neg h5]
      rw [e9] at J5
      exact J5
  refine v_put (i := iMO) (k := 33) (x := ((if (σ iMO 24) = 0 then 1 else 0) : Int32)) (ty := .int) X (lt_MO ) (sh_MO ) rfl in_MO (by decide) tyX8 tyX8_ok nX8 wf_MO_84 rfl rfl rfl rfl rfl (fun _ => Nat.le_of_ble_eq_true rfl) (fun _ _ => rfl) dX8_quote_13 ?_
  generalize hg13 : (up σ iMO 33 ((if (σ iMO 24) = 0 then 1 else 0) : Int32)) = g13
  refine v_aload_n X 0 dX8_quote_16 rfl rfl ?_
  refine v_getI (i := iMO) (k := 33) X (lt_MO ) (sh_MO ) rfl in_MO (by decide) wf_MO_84 rfl (fun _ => rfl) dX8_quote_17 ?_
  refine v_suff (pc2 := 44) (lv2 := [(0, .ref (rh iMO)), (1, .int xa)]) (st2 := [.int ((if (g13 iMO 33) = 0 then (f_MO_mix (f_MO_mix (g13 iMO 23) xa) (g13 iMO 30)) else 0) : Int32)]) (σ2 := g13) ?_ (fun J20 => ?_)
  rotate_left
  ·
    refine v_if_ne X 43 dX8_quote_20 (by decide) (fun h20 => ?_) (fun h20 => ?_)
    ·
      refine v_iconst (v := 0) X dX8_quote_43 (by decide) ?_
      have e9 : (((if (g13 iMO 33) = 0 then (f_MO_mix (f_MO_mix (g13 iMO 23) xa) (g13 iMO 30)) else 0) : Int32) : Int32) = 0 := by simp only [if_neg h20]
      rw [e9] at J20
      exact J20
    ·
      refine v_aload_n X 0 dX8_quote_23 rfl rfl ?_
      refine v_aload_n X 0 dX8_quote_24 rfl rfl ?_
      refine v_aload_n X 0 dX8_quote_25 rfl rfl ?_
      refine v_getI (i := iMO) (k := 23) X (lt_MO ) (sh_MO ) rfl in_MO (by decide) wf_MO_80 rfl (fun _ => rfl) dX8_quote_26 ?_
      refine v_iload_n X 1 dX8_quote_29 rfl rfl ?_
      refine v_callV_CI (rest := [.ref (rh iMO)]) X [.int (g13 iMO 23), .int xa] (c_MO_mix (g13 iMO 23) xa g13 ) mf_MO_mix wi_MO_mix wl_MO_mix (lt_MO ) (sh_MO ) rfl wm_MO_128 rfl ⟨by decide, by decide⟩ (Nat.le_of_ble_eq_true rfl) ⟨by decide, by decide⟩ dX8_quote_30 ?_
      refine v_aload_n X 0 dX8_quote_33 rfl rfl ?_
      refine v_getI (i := iMO) (k := 30) X (lt_MO ) (sh_MO ) rfl in_MO (by decide) wf_MO_106 rfl (fun _ => rfl) dX8_quote_34 ?_
      refine v_callV_CI (rest := []) X [.int (f_MO_mix (g13 iMO 23) xa), .int (g13 iMO 30)] (c_MO_mix (f_MO_mix (g13 iMO 23) xa) (g13 iMO 30) g13 ) mf_MO_mix wi_MO_mix wl_MO_mix (lt_MO ) (sh_MO ) rfl wm_MO_128 rfl ⟨by decide, by decide⟩ (Nat.le_of_ble_eq_true rfl) ⟨by decide, by decide⟩ dX8_quote_37 ?_
      refine v_goto (tgt := 44) X dX8_quote_40 (by decide) ?_
      have e9 : (((if (g13 iMO 33) = 0 then (f_MO_mix (f_MO_mix (g13 iMO 23) xa) (g13 iMO 30)) else 0) : Int32) : Int32) = (f_MO_mix (f_MO_mix (g13 iMO 23) xa) (g13 iMO 30)) := by simp only [if_pos h20]
      rw [e9] at J20
      exact J20
  have e9 : f_MO_quote xa σ = (((if (g13 iMO 33) = 0 then (f_MO_mix (f_MO_mix (g13 iMO 23) xa) (g13 iMO 30)) else 0) : Int32), g13) := by subst hg13; simp only [f_MO_quote]
  exact v_endI hend dX8_quote_44 (by rw [e9]) (by rw [e9])
theorem I_MO_quote (xa : Int32) {σ : St} (hI : Im σ) : Im (f_MO_quote xa σ).2 := by
  unfold f_MO_quote
  exact (Im.upMO hI (by decide))
def f_MO_count (xa : Int32) (σ : St) : Int32 × St :=
  (if xa < 1 then (if xa = 0 then (((if ((up σ iMO 33 0) iMO 24) = 0 then 0 else 1) : Int32), (up σ iMO 33 0)) else (if xa = 1 then (((up σ iMO 33 0) iMO 29), (up σ iMO 33 0)) else (if xa = 2 then (((up σ iMO 33 0) iMO 27), (up σ iMO 33 0)) else (if xa = 3 then (((up σ iMO 33 0) iMO 28), (up σ iMO 33 0)) else (if xa = 4 then (((up σ iMO 33 0) iMO 30), (up σ iMO 33 0)) else (if xa = 5 then (((up σ iMO 33 0) iMO 31), (up σ iMO 33 0)) else (if xa = 6 then (((up σ iMO 33 0) iMO 26), (up σ iMO 33 0)) else (if xa = 7 then (((up σ iMO 33 0) iMO 32), (up σ iMO 33 0)) else ((-1), (up σ iMO 33 0)))))))))) else (if 5 < xa then (if xa = 0 then (((if ((up σ iMO 33 0) iMO 24) = 0 then 0 else 1) : Int32), (up σ iMO 33 0)) else (if xa = 1 then (((up σ iMO 33 0) iMO 29), (up σ iMO 33 0)) else (if xa = 2 then (((up σ iMO 33 0) iMO 27), (up σ iMO 33 0)) else (if xa = 3 then (((up σ iMO 33 0) iMO 28), (up σ iMO 33 0)) else (if xa = 4 then (((up σ iMO 33 0) iMO 30), (up σ iMO 33 0)) else (if xa = 5 then (((up σ iMO 33 0) iMO 31), (up σ iMO 33 0)) else (if xa = 6 then (((up σ iMO 33 0) iMO 26), (up σ iMO 33 0)) else (if xa = 7 then (((up σ iMO 33 0) iMO 32), (up σ iMO 33 0)) else ((-1), (up σ iMO 33 0)))))))))) else (if ((up σ iMO 33 0) iMO 24) = 0 then (0, (up σ iMO 33 0)) else (if xa = 0 then ((1 : Int32), (up σ iMO 33 0)) else (if xa = 1 then (((up σ iMO 33 0) iMO 29), (up σ iMO 33 0)) else (if xa = 2 then (((up σ iMO 33 0) iMO 27), (up σ iMO 33 0)) else (if xa = 3 then (((up σ iMO 33 0) iMO 28), (up σ iMO 33 0)) else (if xa = 4 then (((up σ iMO 33 0) iMO 30), (up σ iMO 33 0)) else (if xa = 5 then (((up σ iMO 33 0) iMO 31), (up σ iMO 33 0)) else (if xa = 6 then (((up σ iMO 33 0) iMO 26), (up σ iMO 33 0)) else (if xa = 7 then (((up σ iMO 33 0) iMO 32), (up σ iMO 33 0)) else ((-1), (up σ iMO 33 0)))))))))))))
set_option maxHeartbeats 4000000 in
set_option maxRecDepth 100000 in
theorem c_MO_count (xa : Int32) (σ : St) : CI l D (tyL cA) rh (rcW rh cA) NW yX8_count cX8_count 2 .int 0 [.ref (rh iMO), .int xa] σ (f_MO_count xa σ).1 (f_MO_count xa σ).2 := by
  refine CI.of rfl (Nat.le_of_ble_eq_true rfl) rfl ?_
  intro p9 e s m args below meth c A Q X hend
  refine v_lv (lv' := [(0, .ref (rh iMO)), (1, .int xa)]) [0, 1] rfl ?_
  refine v_aload_n X 0 dX8_count_0 rfl rfl ?_
  refine v_iconst (v := 0) X dX8_count_1 (by decide) ?_
  refine v_put (i := iMO) (k := 33) (x := 0) (ty := .int) X (lt_MO ) (sh_MO ) rfl in_MO (by decide) tyX8 tyX8_ok nX8 wf_MO_84 rfl rfl rfl rfl rfl (fun _ => Nat.le_of_ble_eq_true rfl) (fun _ _ => rfl) dX8_count_2 ?_
  generalize hg2 : (up σ iMO 33 0) = g2
  refine v_iload_n X 1 dX8_count_5 rfl rfl ?_
  refine v_iconst (v := 1) X dX8_count_6 (by decide) ?_
  refine v_icmp_lt X 24 dX8_count_7 (by decide) (fun h7 => ?_) (fun h7 => ?_)
  ·
    refine v_iload_n X 1 dX8_count_24 rfl rfl ?_
    by_cases h25_0 : xa = 0
    ·
      refine v_tswI (off := 47) X 0 72 h25_0 dX8_count_25 (by decide) (by decide) ?_
      refine v_aload_n X 0 dX8_count_72 rfl rfl ?_
      refine v_getI (i := iMO) (k := 24) X (lt_MO ) (sh_MO ) rfl in_MO (by decide) wf_MO_88 rfl (fun _ => rfl) dX8_count_73 ?_
      refine v_suff (pc2 := 84) (lv2 := [(0, .ref (rh iMO)), (1, .int xa)]) (st2 := [.int ((if (g2 iMO 24) = 0 then 0 else 1) : Int32)]) (σ2 := g2) ?_ (fun J76 => ?_)
      rotate_left
      ·
        refine v_if_eq X 83 dX8_count_76 (by decide) (fun h76 => ?_) (fun h76 => ?_)
        ·
          refine v_iconst (v := 0) X dX8_count_83 (by decide) ?_
          have e9 : (((if (g2 iMO 24) = 0 then 0 else 1) : Int32) : Int32) = 0 := by simp only [if_pos h76]
          rw [e9] at J76
          exact J76
        ·
          refine v_iconst (v := 1) X dX8_count_79 (by decide) ?_
          refine v_goto (tgt := 84) X dX8_count_80 (by decide) ?_
          have e9 : (((if (g2 iMO 24) = 0 then 0 else 1) : Int32) : Int32) = 1 := by simp only [if_neg h76]
          rw [e9] at J76
          exact J76
      have e9 : f_MO_count xa σ = (((if (g2 iMO 24) = 0 then 0 else 1) : Int32), g2) := by subst hg2; simp only [f_MO_count, if_pos h7, if_pos h25_0]
      exact v_endI hend dX8_count_84 (by rw [e9]) (by rw [e9])
    by_cases h25_1 : xa = 1
    ·
      refine v_tswI (off := 60) X 1 85 h25_1 dX8_count_25 (by decide) (by decide) ?_
      refine v_aload_n X 0 dX8_count_85 rfl rfl ?_
      refine v_getI (i := iMO) (k := 29) X (lt_MO ) (sh_MO ) rfl in_MO (by decide) wf_MO_109 rfl (fun _ => rfl) dX8_count_86 ?_
      have e9 : f_MO_count xa σ = ((g2 iMO 29), g2) := by subst hg2; simp only [f_MO_count, if_pos h7, if_neg h25_0, if_pos h25_1]
      exact v_endI hend dX8_count_89 (by rw [e9]) (by rw [e9])
    by_cases h25_2 : xa = 2
    ·
      refine v_tswI (off := 65) X 2 90 h25_2 dX8_count_25 (by decide) (by decide) ?_
      refine v_aload_n X 0 dX8_count_90 rfl rfl ?_
      refine v_getI (i := iMO) (k := 27) X (lt_MO ) (sh_MO ) rfl in_MO (by decide) wf_MO_112 rfl (fun _ => rfl) dX8_count_91 ?_
      have e9 : f_MO_count xa σ = ((g2 iMO 27), g2) := by subst hg2; simp only [f_MO_count, if_pos h7, if_neg h25_0, if_neg h25_1, if_pos h25_2]
      exact v_endI hend dX8_count_94 (by rw [e9]) (by rw [e9])
    by_cases h25_3 : xa = 3
    ·
      refine v_tswI (off := 70) X 3 95 h25_3 dX8_count_25 (by decide) (by decide) ?_
      refine v_aload_n X 0 dX8_count_95 rfl rfl ?_
      refine v_getI (i := iMO) (k := 28) X (lt_MO ) (sh_MO ) rfl in_MO (by decide) wf_MO_115 rfl (fun _ => rfl) dX8_count_96 ?_
      have e9 : f_MO_count xa σ = ((g2 iMO 28), g2) := by subst hg2; simp only [f_MO_count, if_pos h7, if_neg h25_0, if_neg h25_1, if_neg h25_2, if_pos h25_3]
      exact v_endI hend dX8_count_99 (by rw [e9]) (by rw [e9])
    by_cases h25_4 : xa = 4
    ·
      refine v_tswI (off := 75) X 4 100 h25_4 dX8_count_25 (by decide) (by decide) ?_
      refine v_aload_n X 0 dX8_count_100 rfl rfl ?_
      refine v_getI (i := iMO) (k := 30) X (lt_MO ) (sh_MO ) rfl in_MO (by decide) wf_MO_106 rfl (fun _ => rfl) dX8_count_101 ?_
      have e9 : f_MO_count xa σ = ((g2 iMO 30), g2) := by subst hg2; simp only [f_MO_count, if_pos h7, if_neg h25_0, if_neg h25_1, if_neg h25_2, if_neg h25_3, if_pos h25_4]
      exact v_endI hend dX8_count_104 (by rw [e9]) (by rw [e9])
    by_cases h25_5 : xa = 5
    ·
      refine v_tswI (off := 80) X 5 105 h25_5 dX8_count_25 (by decide) (by decide) ?_
      refine v_aload_n X 0 dX8_count_105 rfl rfl ?_
      refine v_getI (i := iMO) (k := 31) X (lt_MO ) (sh_MO ) rfl in_MO (by decide) wf_MO_121 rfl (fun _ => rfl) dX8_count_106 ?_
      have e9 : f_MO_count xa σ = ((g2 iMO 31), g2) := by subst hg2; simp only [f_MO_count, if_pos h7, if_neg h25_0, if_neg h25_1, if_neg h25_2, if_neg h25_3, if_neg h25_4, if_pos h25_5]
      exact v_endI hend dX8_count_109 (by rw [e9]) (by rw [e9])
    by_cases h25_6 : xa = 6
    ·
      refine v_tswI (off := 85) X 6 110 h25_6 dX8_count_25 (by decide) (by decide) ?_
      refine v_aload_n X 0 dX8_count_110 rfl rfl ?_
      refine v_getI (i := iMO) (k := 26) X (lt_MO ) (sh_MO ) rfl in_MO (by decide) wf_MO_100 rfl (fun _ => rfl) dX8_count_111 ?_
      have e9 : f_MO_count xa σ = ((g2 iMO 26), g2) := by subst hg2; simp only [f_MO_count, if_pos h7, if_neg h25_0, if_neg h25_1, if_neg h25_2, if_neg h25_3, if_neg h25_4, if_neg h25_5, if_pos h25_6]
      exact v_endI hend dX8_count_114 (by rw [e9]) (by rw [e9])
    by_cases h25_7 : xa = 7
    ·
      refine v_tswI (off := 90) X 7 115 h25_7 dX8_count_25 (by decide) (by decide) ?_
      refine v_aload_n X 0 dX8_count_115 rfl rfl ?_
      refine v_getI (i := iMO) (k := 32) X (lt_MO ) (sh_MO ) rfl in_MO (by decide) wf_MO_103 rfl (fun _ => rfl) dX8_count_116 ?_
      have e9 : f_MO_count xa σ = ((g2 iMO 32), g2) := by subst hg2; simp only [f_MO_count, if_pos h7, if_neg h25_0, if_neg h25_1, if_neg h25_2, if_neg h25_3, if_neg h25_4, if_neg h25_5, if_neg h25_6, if_pos h25_7]
      exact v_endI hend dX8_count_119 (by rw [e9]) (by rw [e9])
    refine v_tswO X 120 dX8_count_25 (by have g0 := lv_neT (a := 0) h25_0 (by decide); have g1 := lv_neT (a := 1) h25_1 (by decide); have g2 := lv_neT (a := 2) h25_2 (by decide); have g3 := lv_neT (a := 3) h25_3 (by decide); have g4 := lv_neT (a := 4) h25_4 (by decide); have g5 := lv_neT (a := 5) h25_5 (by decide); have g6 := lv_neT (a := 6) h25_6 (by decide); have g7 := lv_neT (a := 7) h25_7 (by decide); omega) (by decide) ?_
    refine v_iconst (v := (-1)) X dX8_count_120 (by decide) ?_
    have e9 : f_MO_count xa σ = ((-1), g2) := by subst hg2; simp only [f_MO_count, if_pos h7, if_neg h25_0, if_neg h25_1, if_neg h25_2, if_neg h25_3, if_neg h25_4, if_neg h25_5, if_neg h25_6, if_neg h25_7]
    exact v_endI hend dX8_count_121 (by rw [e9]) (by rw [e9])
  ·
    refine v_iload_n X 1 dX8_count_10 rfl rfl ?_
    refine v_iconst (v := 5) X dX8_count_11 (by decide) ?_
    refine v_icmp_gt X 24 dX8_count_12 (by decide) (fun h12 => ?_) (fun h12 => ?_)
    ·
      refine v_iload_n X 1 dX8_count_24 rfl rfl ?_
      by_cases h25_0 : xa = 0
      ·
        refine v_tswI (off := 47) X 0 72 h25_0 dX8_count_25 (by decide) (by decide) ?_
        refine v_aload_n X 0 dX8_count_72 rfl rfl ?_
        refine v_getI (i := iMO) (k := 24) X (lt_MO ) (sh_MO ) rfl in_MO (by decide) wf_MO_88 rfl (fun _ => rfl) dX8_count_73 ?_
        refine v_suff (pc2 := 84) (lv2 := [(0, .ref (rh iMO)), (1, .int xa)]) (st2 := [.int ((if (g2 iMO 24) = 0 then 0 else 1) : Int32)]) (σ2 := g2) ?_ (fun J76 => ?_)
        rotate_left
        ·
          refine v_if_eq X 83 dX8_count_76 (by decide) (fun h76 => ?_) (fun h76 => ?_)
          ·
            refine v_iconst (v := 0) X dX8_count_83 (by decide) ?_
            have e9 : (((if (g2 iMO 24) = 0 then 0 else 1) : Int32) : Int32) = 0 := by simp only [if_pos h76]
            rw [e9] at J76
            exact J76
          ·
            refine v_iconst (v := 1) X dX8_count_79 (by decide) ?_
            refine v_goto (tgt := 84) X dX8_count_80 (by decide) ?_
            have e9 : (((if (g2 iMO 24) = 0 then 0 else 1) : Int32) : Int32) = 1 := by simp only [if_neg h76]
            rw [e9] at J76
            exact J76
        have e9 : f_MO_count xa σ = (((if (g2 iMO 24) = 0 then 0 else 1) : Int32), g2) := by subst hg2; simp only [f_MO_count, if_neg h7, if_pos h12, if_pos h25_0]
        exact v_endI hend dX8_count_84 (by rw [e9]) (by rw [e9])
      by_cases h25_1 : xa = 1
      ·
        refine v_tswI (off := 60) X 1 85 h25_1 dX8_count_25 (by decide) (by decide) ?_
        refine v_aload_n X 0 dX8_count_85 rfl rfl ?_
        refine v_getI (i := iMO) (k := 29) X (lt_MO ) (sh_MO ) rfl in_MO (by decide) wf_MO_109 rfl (fun _ => rfl) dX8_count_86 ?_
        have e9 : f_MO_count xa σ = ((g2 iMO 29), g2) := by subst hg2; simp only [f_MO_count, if_neg h7, if_pos h12, if_neg h25_0, if_pos h25_1]
        exact v_endI hend dX8_count_89 (by rw [e9]) (by rw [e9])
      by_cases h25_2 : xa = 2
      ·
        refine v_tswI (off := 65) X 2 90 h25_2 dX8_count_25 (by decide) (by decide) ?_
        refine v_aload_n X 0 dX8_count_90 rfl rfl ?_
        refine v_getI (i := iMO) (k := 27) X (lt_MO ) (sh_MO ) rfl in_MO (by decide) wf_MO_112 rfl (fun _ => rfl) dX8_count_91 ?_
        have e9 : f_MO_count xa σ = ((g2 iMO 27), g2) := by subst hg2; simp only [f_MO_count, if_neg h7, if_pos h12, if_neg h25_0, if_neg h25_1, if_pos h25_2]
        exact v_endI hend dX8_count_94 (by rw [e9]) (by rw [e9])
      by_cases h25_3 : xa = 3
      ·
        refine v_tswI (off := 70) X 3 95 h25_3 dX8_count_25 (by decide) (by decide) ?_
        refine v_aload_n X 0 dX8_count_95 rfl rfl ?_
        refine v_getI (i := iMO) (k := 28) X (lt_MO ) (sh_MO ) rfl in_MO (by decide) wf_MO_115 rfl (fun _ => rfl) dX8_count_96 ?_
        have e9 : f_MO_count xa σ = ((g2 iMO 28), g2) := by subst hg2; simp only [f_MO_count, if_neg h7, if_pos h12, if_neg h25_0, if_neg h25_1, if_neg h25_2, if_pos h25_3]
        exact v_endI hend dX8_count_99 (by rw [e9]) (by rw [e9])
      by_cases h25_4 : xa = 4
      ·
        refine v_tswI (off := 75) X 4 100 h25_4 dX8_count_25 (by decide) (by decide) ?_
        refine v_aload_n X 0 dX8_count_100 rfl rfl ?_
        refine v_getI (i := iMO) (k := 30) X (lt_MO ) (sh_MO ) rfl in_MO (by decide) wf_MO_106 rfl (fun _ => rfl) dX8_count_101 ?_
        have e9 : f_MO_count xa σ = ((g2 iMO 30), g2) := by subst hg2; simp only [f_MO_count, if_neg h7, if_pos h12, if_neg h25_0, if_neg h25_1, if_neg h25_2, if_neg h25_3, if_pos h25_4]
        exact v_endI hend dX8_count_104 (by rw [e9]) (by rw [e9])
      by_cases h25_5 : xa = 5
      ·
        refine v_tswI (off := 80) X 5 105 h25_5 dX8_count_25 (by decide) (by decide) ?_
        refine v_aload_n X 0 dX8_count_105 rfl rfl ?_
        refine v_getI (i := iMO) (k := 31) X (lt_MO ) (sh_MO ) rfl in_MO (by decide) wf_MO_121 rfl (fun _ => rfl) dX8_count_106 ?_
        have e9 : f_MO_count xa σ = ((g2 iMO 31), g2) := by subst hg2; simp only [f_MO_count, if_neg h7, if_pos h12, if_neg h25_0, if_neg h25_1, if_neg h25_2, if_neg h25_3, if_neg h25_4, if_pos h25_5]
        exact v_endI hend dX8_count_109 (by rw [e9]) (by rw [e9])
      by_cases h25_6 : xa = 6
      ·
        refine v_tswI (off := 85) X 6 110 h25_6 dX8_count_25 (by decide) (by decide) ?_
        refine v_aload_n X 0 dX8_count_110 rfl rfl ?_
        refine v_getI (i := iMO) (k := 26) X (lt_MO ) (sh_MO ) rfl in_MO (by decide) wf_MO_100 rfl (fun _ => rfl) dX8_count_111 ?_
        have e9 : f_MO_count xa σ = ((g2 iMO 26), g2) := by subst hg2; simp only [f_MO_count, if_neg h7, if_pos h12, if_neg h25_0, if_neg h25_1, if_neg h25_2, if_neg h25_3, if_neg h25_4, if_neg h25_5, if_pos h25_6]
        exact v_endI hend dX8_count_114 (by rw [e9]) (by rw [e9])
      by_cases h25_7 : xa = 7
      ·
        refine v_tswI (off := 90) X 7 115 h25_7 dX8_count_25 (by decide) (by decide) ?_
        refine v_aload_n X 0 dX8_count_115 rfl rfl ?_
        refine v_getI (i := iMO) (k := 32) X (lt_MO ) (sh_MO ) rfl in_MO (by decide) wf_MO_103 rfl (fun _ => rfl) dX8_count_116 ?_
        have e9 : f_MO_count xa σ = ((g2 iMO 32), g2) := by subst hg2; simp only [f_MO_count, if_neg h7, if_pos h12, if_neg h25_0, if_neg h25_1, if_neg h25_2, if_neg h25_3, if_neg h25_4, if_neg h25_5, if_neg h25_6, if_pos h25_7]
        exact v_endI hend dX8_count_119 (by rw [e9]) (by rw [e9])
      refine v_tswO X 120 dX8_count_25 (by have g0 := lv_neT (a := 0) h25_0 (by decide); have g1 := lv_neT (a := 1) h25_1 (by decide); have g2 := lv_neT (a := 2) h25_2 (by decide); have g3 := lv_neT (a := 3) h25_3 (by decide); have g4 := lv_neT (a := 4) h25_4 (by decide); have g5 := lv_neT (a := 5) h25_5 (by decide); have g6 := lv_neT (a := 6) h25_6 (by decide); have g7 := lv_neT (a := 7) h25_7 (by decide); omega) (by decide) ?_
      refine v_iconst (v := (-1)) X dX8_count_120 (by decide) ?_
      have e9 : f_MO_count xa σ = ((-1), g2) := by subst hg2; simp only [f_MO_count, if_neg h7, if_pos h12, if_neg h25_0, if_neg h25_1, if_neg h25_2, if_neg h25_3, if_neg h25_4, if_neg h25_5, if_neg h25_6, if_neg h25_7]
      exact v_endI hend dX8_count_121 (by rw [e9]) (by rw [e9])
    ·
      refine v_aload_n X 0 dX8_count_15 rfl rfl ?_
      refine v_getI (i := iMO) (k := 24) X (lt_MO ) (sh_MO ) rfl in_MO (by decide) wf_MO_88 rfl (fun _ => rfl) dX8_count_16 ?_
      refine v_if_ne X 24 dX8_count_19 (by decide) (fun h19 => ?_) (fun h19 => ?_)
      ·
        refine v_iload_n X 1 dX8_count_24 rfl rfl ?_
        by_cases h25_0 : xa = 0
        ·
          refine v_tswI (off := 47) X 0 72 h25_0 dX8_count_25 (by decide) (by decide) ?_
          refine v_aload_n X 0 dX8_count_72 rfl rfl ?_
          refine v_getI (i := iMO) (k := 24) X (lt_MO ) (sh_MO ) rfl in_MO (by decide) wf_MO_88 rfl (fun _ => rfl) dX8_count_73 ?_
          refine v_suff (pc2 := 84) (lv2 := [(0, .ref (rh iMO)), (1, .int xa)]) (st2 := [.int (1 : Int32)]) (σ2 := g2) ?_ (fun J76 => ?_)
          rotate_left
          ·
            refine v_if_eq X 83 dX8_count_76 (by decide) (fun h76 => ?_) (fun h76 => ?_)
            · exact absurd h76 h19
            ·
              refine v_iconst (v := 1) X dX8_count_79 (by decide) ?_
              refine v_goto (tgt := 84) X dX8_count_80 (by decide) ?_
              have e9 : ((1 : Int32) : Int32) = 1 := by simp only []
              rw [e9] at J76
              exact J76
          have e9 : f_MO_count xa σ = ((1 : Int32), g2) := by subst hg2; simp only [f_MO_count, if_neg h7, if_neg h12, if_neg h19, if_pos h25_0]
          exact v_endI hend dX8_count_84 (by rw [e9]) (by rw [e9])
        by_cases h25_1 : xa = 1
        ·
          refine v_tswI (off := 60) X 1 85 h25_1 dX8_count_25 (by decide) (by decide) ?_
          refine v_aload_n X 0 dX8_count_85 rfl rfl ?_
          refine v_getI (i := iMO) (k := 29) X (lt_MO ) (sh_MO ) rfl in_MO (by decide) wf_MO_109 rfl (fun _ => rfl) dX8_count_86 ?_
          have e9 : f_MO_count xa σ = ((g2 iMO 29), g2) := by subst hg2; simp only [f_MO_count, if_neg h7, if_neg h12, if_neg h19, if_neg h25_0, if_pos h25_1]
          exact v_endI hend dX8_count_89 (by rw [e9]) (by rw [e9])
        by_cases h25_2 : xa = 2
        ·
          refine v_tswI (off := 65) X 2 90 h25_2 dX8_count_25 (by decide) (by decide) ?_
          refine v_aload_n X 0 dX8_count_90 rfl rfl ?_
          refine v_getI (i := iMO) (k := 27) X (lt_MO ) (sh_MO ) rfl in_MO (by decide) wf_MO_112 rfl (fun _ => rfl) dX8_count_91 ?_
          have e9 : f_MO_count xa σ = ((g2 iMO 27), g2) := by subst hg2; simp only [f_MO_count, if_neg h7, if_neg h12, if_neg h19, if_neg h25_0, if_neg h25_1, if_pos h25_2]
          exact v_endI hend dX8_count_94 (by rw [e9]) (by rw [e9])
        by_cases h25_3 : xa = 3
        ·
          refine v_tswI (off := 70) X 3 95 h25_3 dX8_count_25 (by decide) (by decide) ?_
          refine v_aload_n X 0 dX8_count_95 rfl rfl ?_
          refine v_getI (i := iMO) (k := 28) X (lt_MO ) (sh_MO ) rfl in_MO (by decide) wf_MO_115 rfl (fun _ => rfl) dX8_count_96 ?_
          have e9 : f_MO_count xa σ = ((g2 iMO 28), g2) := by subst hg2; simp only [f_MO_count, if_neg h7, if_neg h12, if_neg h19, if_neg h25_0, if_neg h25_1, if_neg h25_2, if_pos h25_3]
          exact v_endI hend dX8_count_99 (by rw [e9]) (by rw [e9])
        by_cases h25_4 : xa = 4
        ·
          refine v_tswI (off := 75) X 4 100 h25_4 dX8_count_25 (by decide) (by decide) ?_
          refine v_aload_n X 0 dX8_count_100 rfl rfl ?_
          refine v_getI (i := iMO) (k := 30) X (lt_MO ) (sh_MO ) rfl in_MO (by decide) wf_MO_106 rfl (fun _ => rfl) dX8_count_101 ?_
          have e9 : f_MO_count xa σ = ((g2 iMO 30), g2) := by subst hg2; simp only [f_MO_count, if_neg h7, if_neg h12, if_neg h19, if_neg h25_0, if_neg h25_1, if_neg h25_2, if_neg h25_3, if_pos h25_4]
          exact v_endI hend dX8_count_104 (by rw [e9]) (by rw [e9])
        by_cases h25_5 : xa = 5
        ·
          refine v_tswI (off := 80) X 5 105 h25_5 dX8_count_25 (by decide) (by decide) ?_
          refine v_aload_n X 0 dX8_count_105 rfl rfl ?_
          refine v_getI (i := iMO) (k := 31) X (lt_MO ) (sh_MO ) rfl in_MO (by decide) wf_MO_121 rfl (fun _ => rfl) dX8_count_106 ?_
          have e9 : f_MO_count xa σ = ((g2 iMO 31), g2) := by subst hg2; simp only [f_MO_count, if_neg h7, if_neg h12, if_neg h19, if_neg h25_0, if_neg h25_1, if_neg h25_2, if_neg h25_3, if_neg h25_4, if_pos h25_5]
          exact v_endI hend dX8_count_109 (by rw [e9]) (by rw [e9])
        by_cases h25_6 : xa = 6
        ·
          refine v_tswI (off := 85) X 6 110 h25_6 dX8_count_25 (by decide) (by decide) ?_
          refine v_aload_n X 0 dX8_count_110 rfl rfl ?_
          refine v_getI (i := iMO) (k := 26) X (lt_MO ) (sh_MO ) rfl in_MO (by decide) wf_MO_100 rfl (fun _ => rfl) dX8_count_111 ?_
          have e9 : f_MO_count xa σ = ((g2 iMO 26), g2) := by subst hg2; simp only [f_MO_count, if_neg h7, if_neg h12, if_neg h19, if_neg h25_0, if_neg h25_1, if_neg h25_2, if_neg h25_3, if_neg h25_4, if_neg h25_5, if_pos h25_6]
          exact v_endI hend dX8_count_114 (by rw [e9]) (by rw [e9])
        by_cases h25_7 : xa = 7
        ·
          refine v_tswI (off := 90) X 7 115 h25_7 dX8_count_25 (by decide) (by decide) ?_
          refine v_aload_n X 0 dX8_count_115 rfl rfl ?_
          refine v_getI (i := iMO) (k := 32) X (lt_MO ) (sh_MO ) rfl in_MO (by decide) wf_MO_103 rfl (fun _ => rfl) dX8_count_116 ?_
          have e9 : f_MO_count xa σ = ((g2 iMO 32), g2) := by subst hg2; simp only [f_MO_count, if_neg h7, if_neg h12, if_neg h19, if_neg h25_0, if_neg h25_1, if_neg h25_2, if_neg h25_3, if_neg h25_4, if_neg h25_5, if_neg h25_6, if_pos h25_7]
          exact v_endI hend dX8_count_119 (by rw [e9]) (by rw [e9])
        refine v_tswO X 120 dX8_count_25 (by have g0 := lv_neT (a := 0) h25_0 (by decide); have g1 := lv_neT (a := 1) h25_1 (by decide); have g2 := lv_neT (a := 2) h25_2 (by decide); have g3 := lv_neT (a := 3) h25_3 (by decide); have g4 := lv_neT (a := 4) h25_4 (by decide); have g5 := lv_neT (a := 5) h25_5 (by decide); have g6 := lv_neT (a := 6) h25_6 (by decide); have g7 := lv_neT (a := 7) h25_7 (by decide); omega) (by decide) ?_
        refine v_iconst (v := (-1)) X dX8_count_120 (by decide) ?_
        have e9 : f_MO_count xa σ = ((-1), g2) := by subst hg2; simp only [f_MO_count, if_neg h7, if_neg h12, if_neg h19, if_neg h25_0, if_neg h25_1, if_neg h25_2, if_neg h25_3, if_neg h25_4, if_neg h25_5, if_neg h25_6, if_neg h25_7]
        exact v_endI hend dX8_count_121 (by rw [e9]) (by rw [e9])
      ·
        refine v_iconst (v := 0) X dX8_count_22 (by decide) ?_
        have e9 : f_MO_count xa σ = (0, g2) := by subst hg2; simp only [f_MO_count, if_neg h7, if_neg h12, if_pos h19]
        exact v_endI hend dX8_count_23 (by rw [e9]) (by rw [e9])
theorem I_MO_count (xa : Int32) {σ : St} (hI : Im σ) : Im (f_MO_count xa σ).2 := by
  unfold f_MO_count
  exact (im_ite2 (fun _ => (im_ite2 (fun _ => (Im.upMO hI (by decide))) (fun _ => (im_ite2 (fun _ => (Im.upMO hI (by decide))) (fun _ => (im_ite2 (fun _ => (Im.upMO hI (by decide))) (fun _ => (im_ite2 (fun _ => (Im.upMO hI (by decide))) (fun _ => (im_ite2 (fun _ => (Im.upMO hI (by decide))) (fun _ => (im_ite2 (fun _ => (Im.upMO hI (by decide))) (fun _ => (im_ite2 (fun _ => (Im.upMO hI (by decide))) (fun _ => (im_ite2 (fun _ => (Im.upMO hI (by decide))) (fun _ => (Im.upMO hI (by decide))))))))))))))))))) (fun _ => (im_ite2 (fun _ => (im_ite2 (fun _ => (Im.upMO hI (by decide))) (fun _ => (im_ite2 (fun _ => (Im.upMO hI (by decide))) (fun _ => (im_ite2 (fun _ => (Im.upMO hI (by decide))) (fun _ => (im_ite2 (fun _ => (Im.upMO hI (by decide))) (fun _ => (im_ite2 (fun _ => (Im.upMO hI (by decide))) (fun _ => (im_ite2 (fun _ => (Im.upMO hI (by decide))) (fun _ => (im_ite2 (fun _ => (Im.upMO hI (by decide))) (fun _ => (im_ite2 (fun _ => (Im.upMO hI (by decide))) (fun _ => (Im.upMO hI (by decide))))))))))))))))))) (fun _ => (im_ite2 (fun _ => (Im.upMO hI (by decide))) (fun _ => (im_ite2 (fun _ => (Im.upMO hI (by decide))) (fun _ => (im_ite2 (fun _ => (Im.upMO hI (by decide))) (fun _ => (im_ite2 (fun _ => (Im.upMO hI (by decide))) (fun _ => (im_ite2 (fun _ => (Im.upMO hI (by decide))) (fun _ => (im_ite2 (fun _ => (Im.upMO hI (by decide))) (fun _ => (im_ite2 (fun _ => (Im.upMO hI (by decide))) (fun _ => (im_ite2 (fun _ => (Im.upMO hI (by decide))) (fun _ => (im_ite2 (fun _ => (Im.upMO hI (by decide))) (fun _ => (Im.upMO hI (by decide))))))))))))))))))))))))
end CLS
