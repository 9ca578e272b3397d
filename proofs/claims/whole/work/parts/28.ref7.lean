/-! what a step of the reference leaves: 'thrown' and 'booted' -/
def Kt (t b : Int32) (σ : St) : Prop := σ iMO 33 = t ∧ σ iMO 24 = b
theorem Kt.upA {t b : Int32} {σ : St} {i k : Nat} {v : Int32} (h : Kt t b σ) (hi : iMO ≠ i) : Kt t b (up σ i k v) := by
  unfold Kt
  rw [up_row hi]
  exact h
theorem Kt.upMO {t b : Int32} {σ : St} {k : Nat} {v : Int32} (h : Kt t b σ) (hk : 33 ≠ k ∧ 24 ≠ k) : Kt t b (up σ iMO k v) := by
  unfold Kt
  rw [up_slot hk.1, up_slot hk.2]
  exact h
theorem kt_ite {t b : Int32} {c : Prop} [Decidable c] {x y : St} (ha : c → Kt t b x) (hb : ¬ c → Kt t b y) : Kt t b (if c then x else y) := by
  split
  · exact ha (by assumption)
  · exact hb (by assumption)
theorem kt_ite2 {t b : Int32} {c : Prop} [Decidable c] {α : Type} {x y : α × St} (ha : c → Kt t b x.2) (hb : ¬ c → Kt t b y.2) : Kt t b (if c then x else y).2 := by
  split
  · exact ha (by assumption)
  · exact hb (by assumption)
theorem K_MO_put {t9 b9 : Int32} (xa : Int32) (xb : Int32) (xc : Int32) {σ : St} (hI : Kt t9 b9 σ) : Kt t9 b9 (f_MO_put xa xb xc σ) := by
  unfold f_MO_put
  exact (kt_ite (fun _ => hI) (fun _ => (Kt.upA hI (by decide))))
theorem Kl_MO_clear_9 {t9 b9 : Int32} (xa : Int32) : ∀ (k9 : Nat) (i2 : Int32) (σ : St), Kt t9 b9 σ → Kt t9 b9 (lp_MO_clear_9 xa k9 i2 σ) := by
  intro k9
  induction k9 with
  | zero => intro i2 σ hI; exact hI
  | succ k9 ih =>
    intro i2 σ hI
    simp only [lp_MO_clear_9]
    exact (kt_ite (fun _ => hI) (fun _ => (ih _ _ (Kt.upA hI (by decide)))))
theorem K_MO_clear {t9 b9 : Int32} (xa : Int32) {σ : St} (hI : Kt t9 b9 σ) : Kt t9 b9 (f_MO_clear xa σ) := by
  unfold f_MO_clear
  exact (Kl_MO_clear_9 xa _ _ _ (Kt.upA hI (by decide)))
theorem K_MO_loads {t9 b9 : Int32} (xa : Int32) (xb : Int32) (xc : Int32) {σ : St} (hI : Kt t9 b9 σ) : Kt t9 b9 (f_MO_loads xa xb xc σ).2 := by
  unfold f_MO_loads
  exact (kt_ite2 (fun _ => (kt_ite2 (fun _ => (kt_ite2 (fun _ => hI) (fun _ => (kt_ite2 (fun _ => hI) (fun _ => (K_MO_put xa xc ((if (σ i_full ((f_MO_at xb)).toNatClampNeg) = 0 then 0 else (σ i_value ((f_MO_at xb)).toNatClampNeg)) : Int32) hI)))))) (fun _ => (K_MO_put xa xc (σ i_memory (((σ i_from (xa).toNatClampNeg) + (xb / 4))).toNatClampNeg) hI)))) (fun _ => hI))
theorem K_MO_stores {t9 b9 : Int32} (xa : Int32) (xb : Int32) (xc : Int32) {σ : St} (hI : Kt t9 b9 σ) : Kt t9 b9 (f_MO_stores xa xb xc σ).2 := by
  unfold f_MO_stores
  exact (kt_ite2 (fun _ => (kt_ite2 (fun _ => (kt_ite2 (fun _ => hI) (fun _ => (kt_ite2 (fun _ => (Kt.upA (Kt.upA (Kt.upA hI (by decide)) (by decide)) (by decide))) (fun _ => hI))))) (fun _ => (Kt.upA hI (by decide))))) (fun _ => hI))
theorem Kl_MO_fault_81 {t9 b9 : Int32} (xa : Int32) (xb : Int32) : ∀ (k9 : Nat) (i3 : Int32) (σ : St), Kt t9 b9 σ → Kt t9 b9 (lp_MO_fault_81 xa xb k9 i3 σ) := by
  intro k9
  induction k9 with
  | zero => intro i3 σ hI; exact hI
  | succ k9 ih =>
    intro i3 σ hI
    simp only [lp_MO_fault_81]
    exact (kt_ite (fun _ => (Kt.upMO (K_MO_clear xa hI) (by decide))) (fun _ => (ih _ _ (Kt.upA hI (by decide)))))
theorem K_MO_fault {t9 b9 : Int32} (xa : Int32) (xb : Int32) {σ : St} (hI : Kt t9 b9 σ) : Kt t9 b9 (f_MO_fault xa xb σ) := by
  unfold f_MO_fault
  exact (kt_ite (fun _ => (Kt.upA (Kt.upA (Kt.upA hI (by decide)) (by decide)) (by decide))) (fun _ => (kt_ite (fun _ => (Kt.upA (Kt.upA (Kt.upA hI (by decide)) (by decide)) (by decide))) (fun _ => (kt_ite (fun _ => (Kt.upA (Kt.upA (Kt.upA hI (by decide)) (by decide)) (by decide))) (fun _ => (Kl_MO_fault_81 xa xb _ _ _ (Kt.upA (Kt.upA (Kt.upA hI (by decide)) (by decide)) (by decide)))))))))
theorem Kl_MO_calls_67 {t9 b9 : Int32} (xa : Int32) : ∀ (k9 : Nat) (σ : St), Kt t9 b9 σ → Kt t9 b9 (lp_MO_calls_67 xa k9  σ).2 := by
  intro k9
  induction k9 with
  | zero => intro  σ hI; exact hI
  | succ k9 ih =>
    intro  σ hI
    simp only [lp_MO_calls_67]
    exact (kt_ite2 (fun _ => (kt_ite2 (fun _ => hI) (fun _ => (kt_ite2 (fun _ => (Kt.upMO hI (by decide))) (fun _ => (K_MO_put xa 10 ((if (σ i_full ((σ i_register (((xa * 16) + 10)).toNatClampNeg)).toNatClampNeg) = 0 then (-1) else (if ((σ iMO 29) - (σ i_hour ((σ i_register (((xa * 16) + 10)).toNatClampNeg)).toNatClampNeg)) ≤ (σ i_period ((σ i_register (((xa * 16) + 10)).toNatClampNeg)).toNatClampNeg) then ((σ iMO 29) - (σ i_hour ((σ i_register (((xa * 16) + 10)).toNatClampNeg)).toNatClampNeg)) else (-1))) : Int32) hI)))))) (fun _ => (kt_ite2 (fun _ => (Kt.upMO hI (by decide))) (fun _ => (kt_ite2 (fun _ => (Kt.upA (Kt.upA hI (by decide)) (by decide))) (fun _ => (kt_ite2 (fun _ => (kt_ite2 (fun _ => (K_MO_put xa 10 ((if ((if (σ i_seal ((σ i_register (((xa * 16) + 10)).toNatClampNeg)).toNatClampNeg) = (f_MO_mix (f_MO_mix (σ iMO 23) ((σ i_holds ((σ i_register (((xa * 16) + 10)).toNatClampNeg)).toNatClampNeg) ^^^ (f_MO_mix (σ iMO 23) (σ i_measure (xa).toNatClampNeg)))) (σ i_measure (xa).toNatClampNeg)) then 1 else 0) : Int32) = 0 then 0 else 1) : Int32) hI)) (fun _ => (K_MO_put xa 11 ((σ i_holds ((σ i_register (((xa * 16) + 10)).toNatClampNeg)).toNatClampNeg) ^^^ (f_MO_mix (σ iMO 23) (σ i_measure (xa).toNatClampNeg))) (K_MO_put xa 10 ((if ((if (σ i_seal ((σ i_register (((xa * 16) + 10)).toNatClampNeg)).toNatClampNeg) = (f_MO_mix (f_MO_mix (σ iMO 23) ((σ i_holds ((σ i_register (((xa * 16) + 10)).toNatClampNeg)).toNatClampNeg) ^^^ (f_MO_mix (σ iMO 23) (σ i_measure (xa).toNatClampNeg)))) (σ i_measure (xa).toNatClampNeg)) then 1 else 0) : Int32) = 0 then 0 else 1) : Int32) hI))))) (fun _ => (K_MO_put xa 10 (σ i_measure (xa).toNatClampNeg) hI)))))))))
theorem K_MO_calls {t9 b9 : Int32} (xa : Int32) {σ : St} (hI : Kt t9 b9 σ) : Kt t9 b9 (f_MO_calls xa σ).2 := by
  unfold f_MO_calls
  exact (kt_ite2 (fun _ => hI) (fun _ => (kt_ite2 (fun _ => hI) (fun _ => (kt_ite2 (fun _ => (Kl_MO_calls_67 xa _  _ hI)) (fun _ => (kt_ite2 (fun _ => (Kl_MO_calls_67 xa _  _ hI)) (fun _ => (kt_ite2 (fun _ => (Kl_MO_calls_67 xa _  _ hI)) (fun _ => hI))))))))))
theorem K_MO_perform {t9 b9 : Int32} (xa : Int32) (xb : Int32) {σ : St} (hI : Kt t9 b9 σ) : Kt t9 b9 (f_MO_perform xa xb σ).2 := by
  unfold f_MO_perform
  exact (kt_ite2 (fun h81 => (Kt.upA (K_MO_put xa ((ushr xb 7) &&& 31) (xb &&& (-4096)) hI) (by decide))) (fun h81 => (kt_ite2 (fun h102 => (Kt.upA (K_MO_put xa ((ushr xb 7) &&& 31) ((σ i_pc (xa).toNatClampNeg) + (xb &&& (-4096))) hI) (by decide))) (fun h102 => (kt_ite2 (fun h126 => (Kt.upA (K_MO_put xa ((ushr xb 7) &&& 31) ((σ i_pc (xa).toNatClampNeg) + 4) hI) (by decide))) (fun h126 => (kt_ite2 (fun h182 => (Kt.upA (K_MO_put xa ((ushr xb 7) &&& 31) ((σ i_pc (xa).toNatClampNeg) + 4) hI) (by decide))) (fun h182 => (kt_ite2 (fun h212 => (kt_ite2 (fun h225 => (Kt.upA hI (by decide))) (fun h225 => (Kt.upA hI (by decide))))) (fun h212 => (kt_ite2 (fun h275 => (kt_ite2 (fun h476 => (Kt.upA (K_MO_loads xa ((σ i_register (((xa * 16) + ((ushr xb 15) &&& 15))).toNatClampNeg) + (sshr xb 20)) ((ushr xb 7) &&& 31) hI) (by decide))) (fun h476 => (K_MO_loads xa ((σ i_register (((xa * 16) + ((ushr xb 15) &&& 15))).toNatClampNeg) + (sshr xb 20)) ((ushr xb 7) &&& 31) hI)))) (fun h275 => (kt_ite2 (fun h300 => (kt_ite2 (fun h476 => (Kt.upA (K_MO_stores xa ((σ i_register (((xa * 16) + ((ushr xb 15) &&& 15))).toNatClampNeg) + ((shl (sshr xb 25) 5) ||| ((ushr xb 7) &&& 31))) (σ i_register (((xa * 16) + ((ushr xb 20) &&& 15))).toNatClampNeg) hI) (by decide))) (fun h476 => (K_MO_stores xa ((σ i_register (((xa * 16) + ((ushr xb 15) &&& 15))).toNatClampNeg) + ((shl (sshr xb 25) 5) ||| ((ushr xb 7) &&& 31))) (σ i_register (((xa * 16) + ((ushr xb 20) &&& 15))).toNatClampNeg) hI)))) (fun h300 => (kt_ite2 (fun h330 => (Kt.upA (K_MO_put xa ((ushr xb 7) &&& 31) (f_MO_sum ((ushr xb 12) &&& 7) (σ i_register (((xa * 16) + ((ushr xb 15) &&& 15))).toNatClampNeg) ((if ((ushr xb 12) &&& 7) = 1 then ((ushr xb 20) &&& 31) else (if ((ushr xb 12) &&& 7) = 5 then ((ushr xb 20) &&& 31) else (sshr xb 20))) : Int32) ((if ((ushr xb 12) &&& 7) = 5 then (if (ushr xb 25) = 32 then 1 else 0) else 0) : Int32)) hI) (by decide))) (fun h330 => (kt_ite2 (fun h400 => (Kt.upA (K_MO_put xa ((ushr xb 7) &&& 31) (f_MO_sum ((ushr xb 12) &&& 7) (σ i_register (((xa * 16) + ((ushr xb 15) &&& 15))).toNatClampNeg) ((if ((ushr xb 12) &&& 7) = 1 then ((σ i_register (((xa * 16) + ((ushr xb 20) &&& 15))).toNatClampNeg) &&& 31) else (if ((ushr xb 12) &&& 7) = 5 then ((σ i_register (((xa * 16) + ((ushr xb 20) &&& 15))).toNatClampNeg) &&& 31) else (σ i_register (((xa * 16) + ((ushr xb 20) &&& 15))).toNatClampNeg))) : Int32) ((if (ushr xb 25) = 32 then 1 else 0) : Int32)) hI) (by decide))) (fun h400 => (kt_ite2 (fun h460 => (kt_ite2 (fun h476 => (Kt.upA (K_MO_calls xa hI) (by decide))) (fun h476 => (K_MO_calls xa hI)))) (fun h460 => hI))))))))))))))))))))
theorem K_MO_step {t9 b9 : Int32} (xa : Int32) {σ : St} (hI : Kt t9 b9 σ) : Kt t9 b9 (f_MO_step xa σ) := by
  unfold f_MO_step
  exact (kt_ite (fun h20 => (kt_ite (fun h39 => (K_MO_fault xa 3 (Kt.upA hI (by decide)))) (fun h39 => (kt_ite (fun h73 => (K_MO_fault xa 1 (Kt.upA hI (by decide)))) (fun h73 => (kt_ite (fun h88 => (K_MO_perform xa ((up σ i_begun (xa).toNatClampNeg ((σ i_begun (xa).toNatClampNeg) + 1)) i_memory ((((up σ i_begun (xa).toNatClampNeg ((σ i_begun (xa).toNatClampNeg) + 1)) i_from (xa).toNatClampNeg) + (((up σ i_begun (xa).toNatClampNeg ((σ i_begun (xa).toNatClampNeg) + 1)) i_pc (xa).toNatClampNeg) / 4))).toNatClampNeg) (Kt.upA hI (by decide)))) (fun h88 => (K_MO_fault xa (f_MO_perform xa ((up σ i_begun (xa).toNatClampNeg ((σ i_begun (xa).toNatClampNeg) + 1)) i_memory ((((up σ i_begun (xa).toNatClampNeg ((σ i_begun (xa).toNatClampNeg) + 1)) i_from (xa).toNatClampNeg) + (((up σ i_begun (xa).toNatClampNeg ((σ i_begun (xa).toNatClampNeg) + 1)) i_pc (xa).toNatClampNeg) / 4))).toNatClampNeg) (up σ i_begun (xa).toNatClampNeg ((σ i_begun (xa).toNatClampNeg) + 1))).1 (K_MO_perform xa ((up σ i_begun (xa).toNatClampNeg ((σ i_begun (xa).toNatClampNeg) + 1)) i_memory ((((up σ i_begun (xa).toNatClampNeg ((σ i_begun (xa).toNatClampNeg) + 1)) i_from (xa).toNatClampNeg) + (((up σ i_begun (xa).toNatClampNeg ((σ i_begun (xa).toNatClampNeg) + 1)) i_pc (xa).toNatClampNeg) / 4))).toNatClampNeg) (Kt.upA hI (by decide))))))))))) (fun h20 => (K_MO_fault xa 2 (Kt.upA hI (by decide)))))
