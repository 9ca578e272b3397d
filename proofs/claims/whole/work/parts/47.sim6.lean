/-! THE TWO SIDES: a run, and the small methods of the face -/
theorem rn0 (xa : Int32) (k : Nat) (m i : Int32) (σ : St) (hi : xa ≤ i) : lp_MO_run_36 xa (k + 1) m i σ = (m, σ) := by
  simp only [lp_MO_run_36]
  rw [if_pos hi]
theorem rn2 (xa : Int32) (k : Nat) (m i : Int32) (σ : St) (hi : ¬ xa ≤ i) (ht : ¬ σ iMO 33 = 0) : lp_MO_run_36 xa (k + 1) m i σ = (m, σ) := by
  simp only [lp_MO_run_36]
  rw [if_neg hi, if_neg ht]
section SIM6
variable {a0 b0 a b a' b' : St} {p : Nat} {o o' : Option Nat}
theorem Bw.tr (h : Re a0 b0 o a b) (h' : Re a0 b0 o' a' b') (r0 : a' 0 = a 0) (r6 : a' 6 = a 6) (r8 : a' 8 = a 8) (hb : Bw b) : Bw b' := by
  have e24 : b' 29 24 = b 29 24 := by rw [h'.sc 0 2 24 gmBooted, h.sc 0 2 24 gmBooted, r0]
  have e26 : b' 29 26 = b 29 26 := by rw [h'.sc 6 2 26 gmSize, h.sc 6 2 26 gmSize, r6]
  have e27 : b' 29 27 = b 29 27 := by rw [h'.sc 6 3 27 gmCur, h.sc 6 3 27 gmCur, r6]
  have e28 : b' 29 28 = b 29 28 := by rw [h'.sc 6 4 28 gmLeft, h.sc 6 4 28 gmLeft, r6]
  refine ⟨fun w hw h1 => ?_, fun h1 => ?_⟩
  · rw [e26] at h1
    rw [h'.tl w hw, r8, ← h.tl w hw]
    exact hb.1 w hw h1
  · rw [e24] at h1
    rw [e27, e26, e28]
    exact hb.2 h1
theorem pnow_tr (r6 : a' 6 = a 6) (r7 : a' 7 = a 7) : pnow a' = pnow a := by
  unfold pnow f_TT_partitionNow
  rw [show a' iTP = a iTP from r7, show a' iTT = a iTT from r6]
def Rr (a0 b0 a b : St) : Prop := Re a0 b0 (some (pnow a)) a b ∧ Bw b ∧ (¬ b 29 24 = 0) ∧ b 29 33 = 0
theorem S_runl (xa : Int32) : ∀ (k : Nat) (m i : Int32) (a b : St), Rr a0 b0 a b → (lp_SM_run_22 xa k m i a).1 = 0 ∧ (lp_SM_run_22 xa k m i a).2.1 = (lp_MO_run_36 xa k m i b).1 ∧ Rr a0 b0 (lp_SM_run_22 xa k m i a).2.2 (lp_MO_run_36 xa k m i b).2 := by
  intro k
  induction k with
  | zero => intro m i a b h; exact ⟨rfl, rfl, h⟩
  | succ k ih =>
    intro m i a b h
    obtain ⟨h1, h2, h3, h4⟩ := h
    by_cases hi : xa ≤ i
    · rw [rn0 xa k m i b hi]
      simp only [lp_SM_run_22]
      rw [if_pos hi]
      exact ⟨rfl, rfl, h1, h2, h3, h4⟩
    · rw [rn1 xa k m i b hi h4]
      simp only [lp_SM_run_22]
      rw [if_neg hi]
      have g1 : Re a0 b0 (some (pnow a)) (t1C a) (t1M b) := by
        unfold t1C t1M
        rw [show b iMO 29 = a iMA 5 from h1.sc 1 5 29 gmTime]
        exact h1.upG gmTime (Ic.upMA h1.ic)
      have r6 : t1C a 6 = a 6 := by unfold t1C; exact up_row (by decide)
      have r7 : t1C a 7 = a 7 := by unfold t1C; exact up_row (by decide)
      have r8 : t1C a 8 = a 8 := by unfold t1C; exact up_row (by decide)
      have r0 : t1C a 0 = a 0 := by unfold t1C; exact up_row (by decide)
      have g2 : Bw (t1M b) := Bw.tr h1 g1 r0 r6 r8 h2
      have ep : pnow (t1C a) = pnow a := pnow_tr r6 r7
      have g3 : ¬ t1M b 29 24 = 0 := by unfold t1M; rw [up_slot (by decide)]; exact h3
      have g4 : t1M b 29 33 = 0 := by unfold t1M; rw [up_slot (by decide)]; exact h4
      rw [← ep] at g1
      have hin := pn_in g1.ic
      have hlt : pnow (t1C a) < 4 := vin_lt hin
      have eo : t1M b i_owner ((t1M b) iMO 27).toNatClampNeg = f_TT_partitionNow (t1C a) := by
        unfold f_TT_partitionNow
        rw [show t1M b iMO 27 = t1C a iTT 3 from g1.sc 6 3 27 gmCur]
        have tc := g1.ic.tc
        exact g1.tp _ (by have := clamp_toInt tc.1; omega)
      have eP : f_TT_partitionNow (t1C a) = nI (pnow (t1C a)) := by
        obtain ⟨j, hj, ej⟩ := vp_in_of hin (by omega)
        unfold pnow; rw [ej, nI_clamp (by omega)]
      rw [eo, eP, nI_clamp (by omega)]
      have e6 : t1M b i_ready (pnow (t1C a)) = t1C a (iP (pnow (t1C a))) 6 := g1.pt _ 6 42 hlt pm6
      have e7 : t1M b iMO 25 = t1C a (iP (pnow (t1C a))) 7 := (g1.sil _ rfl).2
      rw [e6, e7]
      by_cases q : t1C a (iP (pnow (t1C a))) 6 = 0 ∨ ¬ t1C a (iP (pnow (t1C a))) 7 = 0
      · rw [if_pos q, tk0 a q, if_pos rfl]
        obtain ⟨f1, f2, f3, f4⟩ := S_fin g1 g2 g3
        exact ih m (i + 1) _ _ ⟨f1, f2, by rw [f3]; exact g3, by rw [f4]; exact g4⟩
      · have q1 : ¬ t1C a (iP (pnow (t1C a))) 6 = 0 := fun e => q (Or.inl e)
        have q2 : t1C a (iP (pnow (t1C a))) 7 = 0 := Classical.byContradiction fun e => q (Or.inr e)
        rw [if_neg q, tk1 a q1 q2, if_neg (by show ¬ (1 : Int32) = 0; decide)]
        have s1 := S_step g1 hlt
        have k6 := fr_step (pnow (t1C a)) (i := 6) (by omega) (t1C a)
        have k7 := fr_step (pnow (t1C a)) (i := 7) (by omega) (t1C a)
        have k8 := fr_step (pnow (t1C a)) (i := 8) (by omega) (t1C a)
        have k0 := fr_step (pnow (t1C a)) (i := 0) (by omega) (t1C a)
        have s2 : Bw (f_MO_step (nI (pnow (t1C a))) (t1M b)) := Bw.tr g1 s1 k0 k6 k8 g2
        have ep2 : pnow (f_MA_step (pnow (t1C a)) (t1C a)) = pnow (t1C a) := pnow_tr k6 k7
        obtain ⟨kt1, kt2⟩ := K_MO_step (nI (pnow (t1C a))) (σ := t1M b) (t9 := t1M b 29 33) (b9 := t1M b 29 24) ⟨rfl, rfl⟩
        have s3 : ¬ f_MO_step (nI (pnow (t1C a))) (t1M b) 29 24 = 0 := by rw [show f_MO_step (nI (pnow (t1C a))) (t1M b) 29 24 = _ from kt2]; exact g3
        have s4 : f_MO_step (nI (pnow (t1C a))) (t1M b) 29 33 = 0 := by rw [show f_MO_step (nI (pnow (t1C a))) (t1M b) 29 33 = _ from kt1]; exact g4
        rw [show (some (pnow (t1C a))) = some (pnow (f_MA_step (pnow (t1C a)) (t1C a))) from by rw [ep2]] at s1
        obtain ⟨f1, f2, f3, f4⟩ := S_fin s1 s2 s3
        exact ih (m + 1) (i + 1) _ _ ⟨f1, f2, by rw [f3]; exact s3, by rw [f4]; exact s4⟩
/-- what holds between two calls -/
def Rt (a0 b0 a b : St) : Prop := Re a0 b0 none a b ∧ Bw b ∧ (¬ b 29 24 = 0 → b 29 25 = a (iP (pnow a)) 7)
/-- what a call's two sides must give -/
def Sf (a0 b0 : St) (k : Int32) (E : Int32 × Int32 × St) (v : Int32) (F : St) : Prop := F 29 33 = k ∧ (E.1 = 0 → E.2.1 = v) ∧ Rt a0 b0 E.2.2 F
theorem Bw.thr {v : Int32} (h : Bw b) : Bw (up b 29 33 v) := by
  refine ⟨fun w hw h1 => ?_, fun h1 => ?_⟩
  · rw [up_slot (by decide)] at h1
    rw [up_row (by decide)]
    exact h.1 w hw h1
  · rw [up_slot (by decide)] at h1
    rw [up_slot (by decide), up_slot (by decide), up_slot (by decide)]
    exact h.2 h1
theorem Rt.thr {v : Int32} (h : Rt a0 b0 a b) : Rt a0 b0 a (up b 29 33 v) :=
  ⟨h.1.upThr, h.2.1.thr, fun h1 => by rw [up_slot (by decide)] at h1; rw [up_slot (by decide)]; exact h.2.2 h1⟩
theorem up33v (v : Int32) : up b 29 33 v 29 33 = v := by rw [up_at, if_pos ⟨rfl, rfl⟩]
theorem Rt.boo (h : Rt a0 b0 a b) : b 29 24 = a 0 2 := h.1.sc 0 2 24 gmBooted
theorem S_run (h : Rt a0 b0 a b) (xa : Int32) : Sf a0 b0 (f_SM_run xa a).1 (f_SM_run xa a) (f_MO_run xa b).1 (f_MO_run xa b).2 := by
  have z1 : (1 : Int32).toInt = 1 := by decide
  unfold f_MO_run
  by_cases q1 : xa < 1
  · have E : f_SM_run xa a = (1, 0, a) := by simp [f_SM_run, f_SM_refuseBadUnless, f_SM_within, q1]
    rw [E, if_pos q1, rn0 xa 400 0 0 _ (by rw [ile, t0i]; rw [ilt, z1] at q1; omega)]
    exact ⟨up33v (b := b) 1, fun e => absurd e (by show ¬ (1 : Int32) = 0; decide), h.thr⟩
  · have q1' : ¬ xa ≤ 0 := by rw [ile, t0i]; rw [ilt, z1] at q1; omega
    rw [if_neg q1]
    by_cases q2 : xa ≤ 400
    · have q2' : ¬ (400 : Int32) < xa := by rw [ilt]; rw [ile] at q2; omega
      rw [if_pos q2]
      by_cases q3 : b 29 24 = 0
      · have E : f_SM_run xa a = (2, 0, a) := by
          have q4 : a iSM 2 = 0 := by rw [← q3]; exact h.boo.symm
          simp only [f_SM_run, f_SM_refuseBadUnless, f_SM_refuseNowUnless, f_SM_within, if_neg q1, if_neg q2', if_pos q4]
          rfl
        rw [E, if_pos (show b iMO 24 = 0 from q3), rn2 xa 400 0 0 _ q1' (by show ¬ up b 29 33 2 29 33 = 0; rw [up33v]; decide)]
        exact ⟨up33v (b := b) 2, fun e => absurd e (by show ¬ (2 : Int32) = 0; decide), h.thr⟩
      · have E : f_SM_run xa a = lp_SM_run_22 xa 401 0 0 a := by
          have q4 : ¬ a iSM 2 = 0 := by rw [show a iSM 2 = b 29 24 from h.boo.symm]; exact q3
          simp only [f_SM_run, f_SM_refuseBadUnless, f_SM_refuseNowUnless, f_SM_within, if_neg q1, if_neg q2', if_neg q4]
          rfl
        rw [E, if_neg (show ¬ b iMO 24 = 0 from q3)]
        have hr : Rr a0 b0 a (up b 29 33 0) := ⟨(h.thr (v := 0)).1.someO (vin_lt (pn_in h.1.ic)) (h.thr.2.2 (by rw [up_slot (by decide)]; exact q3)), h.2.1.thr, by rw [up_slot (by decide)]; exact q3, up33v 0⟩
        obtain ⟨r1, r2, r3⟩ := S_runl xa 401 0 0 a (up b 29 33 0) hr
        refine ⟨?_, fun _ => r2, r3.1.noO, r3.2.1, fun _ => (r3.1.sil _ rfl).2⟩
        rw [r1]; exact r3.2.2.2
    · have q2' : (400 : Int32) < xa := by rw [ilt]; rw [ile] at q2; omega
      have E : f_SM_run xa a = (1, 0, a) := by simp [f_SM_run, f_SM_refuseBadUnless, f_SM_within, q1, q2']
      rw [E, if_neg q2, rn2 xa 400 0 0 _ q1' (by show ¬ up b 29 33 1 29 33 = 0; rw [up33v]; decide)]
      exact ⟨up33v (b := b) 1, fun e => absurd e (by show ¬ (1 : Int32) = 0; decide), h.thr⟩
end SIM6
