/-! THE LAW: its loop -/
section LAWL
variable {p : Program} {l : Launch} {e : Env} {s : State} {m : MethodId} {args : Array Value} {below : List Frame} {meth : Method} {c : Code} {D : va_G} {cA : Nat → ClassId} {A : Nat → Prop} {rh : Nat → Nat} {Q : State → Prop} {b L : Nat} {xs : Nat → Int32}
theorem nIs5 {L : Nat} (hL : L ≤ 2561) : (Int32.ofNat L - 5).toInt = (L : Int) - 5 := by
  rw [Int32.toInt_sub, show (Int32.ofNat L).toInt = (L : Int) from nI_toInt (by omega), show (5 : Int32).toInt = 5 by decide]
  apply Int.bmod_eq_of_le <;> omega
set_option maxHeartbeats 2000000 in
theorem law_loop (X : Cx p s m args meth c D (tyL cA) A cL_law 7 RL) (hlt : l.stackTraces = false) (hX : va_X b L xs s s.heap) (hbl : b < s.heap.size) (hbA : ¬ A b) (hL : L ≤ 2561) (hend : ∀ (cells slots : Nat) (lv : List (Nat × Value)) (σ : St), cells ≤ room_1.cells → slots ≤ room_1.slots → Vz p l e room_1 s m args below meth c D A 7 rh (rcW rh cA) NW cells slots Q 888 lv [.int 1] σ) :
    ∀ (n t cells slots : Nat) (σ : St), L ≤ 5 * (t + n) → t + n ≤ 600 → cells + 3 * n ≤ room_1.cells → slots + 18 * n ≤ room_1.slots → Rt σ σ σ σ → Vz p l e room_1 s m args below meth c D A 7 rh (rcW rh cA) NW cells slots Q 33 [(0, .ref b), (1, .ref (rh iSM)), (2, .ref (rh iMO)), (3, .ref (rh iOUT)), (4, .int (nI (1 + 5 * t)))] [] σ := by
  intro n
  induction n with
  | zero =>
    intro t cells slots σ h1 h2 h3 h4 hR
    refine v_iload X 4 dL_law_33 rfl ?_
    refine v_aload_n X 0 dL_law_35 rfl rfl ?_
    refine v_slen X hX hbl hbA dL_law_36 ?_
    refine v_iconst (v := 5) X dL_law_37 (by decide) ?_
    refine v_isub X dL_law_38 ?_
    refine v_icmp_gt X 887 dL_law_39 (by decide) (fun _ => ?_) (fun hle => ?_)
    · refine v_iconst (pc := 887) (v := 1) X dL_law_887 (by decide) ?_
      exact hend cells slots _ σ (by omega) (by omega)
    · exfalso
      rw [ilt, nIs5 hL, nI_toInt (by omega)] at hle
      omega
  | succ n ih =>
    intro t cells slots σ h1 h2 h3 h4 hR
    refine v_iload X 4 dL_law_33 rfl ?_
    refine v_aload_n X 0 dL_law_35 rfl rfl ?_
    refine v_slen X hX hbl hbA dL_law_36 ?_
    refine v_iconst (v := 5) X dL_law_37 (by decide) ?_
    refine v_isub X dL_law_38 ?_
    refine v_icmp_gt X 887 dL_law_39 (by decide) (fun _ => ?_) (fun hle => ?_)
    · refine v_iconst (pc := 887) (v := 1) X dL_law_887 (by decide) ?_
      exact hend cells slots _ σ (by omega) (by omega)
    · rw [ilt, nIs5 hL, nI_toInt (by omega)] at hle
      have hlen : 1 + 5 * t + 5 ≤ L := by omega
      have hi : ∀ c : Nat, c < 5 → vp_in (nI (1 + 5 * t) + nI c) L := fun c hc => by
        rw [nI_add]; exact vp_in_nI (by omega) (by omega)
      have hi0 : vp_in (nI (1 + 5 * t)) L := vp_in_nI (by omega) (by omega)
      have hi1 : vp_in (nI (1 + 5 * t) + 1) L := hi 1 (by omega)
      have hi2 : vp_in (nI (1 + 5 * t) + 2) L := hi 2 (by omega)
      have hi3 : vp_in (nI (1 + 5 * t) + 3) L := hi 3 (by omega)
      have hi4 : vp_in (nI (1 + 5 * t) + 4) L := hi 4 (by omega)
      have hf : cells + 3 ≤ room_1.cells ∧ slots + 18 ≤ room_1.slots := ⟨by omega, by omega⟩
      have tail : ∀ (cells' slots' : Nat) (σ9 : St), cells' ≤ cells + 3 → slots' ≤ slots + 18 → Rt σ9 σ9 σ9 σ9 → Vz p l e room_1 s m args below meth c D A 7 rh (rcW rh cA) NW cells' slots' Q 881 [(0, .ref b), (1, .ref (rh iSM)), (2, .ref (rh iMO)), (3, .ref (rh iOUT)), (4, .int (nI (1 + 5 * t)))] [] σ9 := by
        intro cells' slots' σ9 hc hs h9
        refine v_iinc (v := nI (1 + 5 * (t + 1))) (lv' := [(4, .int (nI (1 + 5 * (t + 1)))), (0, .ref b), (1, .ref (rh iSM)), (2, .ref (rh iMO)), (3, .ref (rh iOUT))]) X 4 dL_law_881 rfl (by rw [show Int32.ofInt 5 = nI 5 from by decide, nI_add]; congr 1) (by decide) rfl ?_
        refine v_goto (tgt := 33) X dL_law_884 (by decide) ?_
        refine v_lv (lv' := [(0, .ref b), (1, .ref (rh iSM)), (2, .ref (rh iMO)), (3, .ref (rh iOUT)), (4, .int (nI (1 + 5 * (t + 1))))]) [1, 2, 3, 4, 0] rfl ?_
        exact ih (t + 1) cells' slots' σ9 (by omega) (by omega) (by omega) (by omega) h9
      refine v_aload_n X 0 dL_law_42 rfl rfl ?_
      refine v_iload X 4 dL_law_43 rfl ?_
      refine v_sld X hX hbl hbA hi0 dL_law_45 ?_
      refine v_bipush (v := 15) X dL_law_46 (by decide) ?_
      refine v_iand X dL_law_48 ?_
      obtain ⟨j, hj, ej⟩ := vp_in_of (pk_andIn (xs (nI (1 + 5 * t)).toNatClampNeg) (m := 15) 4 (by decide) (by decide)) (by decide)
      rw [ej]
      have cs : j = 0 ∨ j = 1 ∨ j = 2 ∨ j = 3 ∨ j = 4 ∨ j = 5 ∨ j = 6 ∨ j = 7 ∨ j = 8 ∨ j = 9 ∨ j = 10 ∨ j = 11 ∨ j = 12 ∨ j = 13 ∨ j = 14 ∨ j = 15 := by omega
      rcases cs with rfl | rfl | rfl | rfl | rfl | rfl | rfl | rfl | rfl | rfl | rfl | rfl | rfl | rfl | rfl | rfl
      · refine v_tswI (off := 71) X 0 120 (show nI 0 = (0 : Int32) from rfl) dL_law_49 (by decide) (by decide) ?_
        exact law_region X hlt hX hbl hbA hi1 hi2 hi3 hi4 hR hf (fun σ9 h9 => tail _ _ σ9 (by omega) (by omega) h9)
      · refine v_tswI (off := 131) X 1 180 (show nI 1 = (1 : Int32) from rfl) dL_law_49 (by decide) (by decide) ?_
        exact law_load X hlt hX hbl hbA hi1 hi2 hi3 hi4 hR hf (fun σ9 h9 => tail _ _ σ9 (by omega) (by omega) h9)
      · refine v_tswI (off := 179) X 2 228 (show nI 2 = (2 : Int32) from rfl) dL_law_49 (by decide) (by decide) ?_
        exact law_policy X hlt hX hbl hbA hi1 hi2 hi3 hi4 hR hf (fun σ9 h9 => tail _ _ σ9 (by omega) (by omega) h9)
      · refine v_tswI (off := 227) X 3 276 (show nI 3 = (3 : Int32) from rfl) dL_law_49 (by decide) (by decide) ?_
        exact law_window X hlt hX hbl hbA hi1 hi2 hi3 hi4 hR hf (fun σ9 h9 => tail _ _ σ9 (by omega) (by omega) h9)
      · refine v_tswI (off := 295) X 4 344 (show nI 4 = (4 : Int32) from rfl) dL_law_49 (by decide) (by decide) ?_
        exact law_channel X hlt hX hbl hbA hi1 hi2 hi3 hi4 hR hf (fun σ9 h9 => tail _ _ σ9 (by omega) (by omega) h9)
      · refine v_tswI (off := 367) X 5 416 (show nI 5 = (5 : Int32) from rfl) dL_law_49 (by decide) (by decide) ?_
        exact law_boot X hlt hX hbl hbA hi1 hi2 hi3 hi4 hR hf (fun σ9 h9 => tail _ _ σ9 (by omega) (by omega) h9)
      · refine v_tswI (off := 411) X 6 460 (show nI 6 = (6 : Int32) from rfl) dL_law_49 (by decide) (by decide) ?_
        exact law_reset X hlt hX hbl hbA hi1 hi2 hi3 hi4 hR hf (fun σ9 h9 => tail _ _ σ9 (by omega) (by omega) h9)
      · refine v_tswI (off := 435) X 7 484 (show nI 7 = (7 : Int32) from rfl) dL_law_49 (by decide) (by decide) ?_
        exact law_run X hlt hX hbl hbA hi1 hi2 hi3 hi4 hR hf (fun σ9 h9 => tail _ _ σ9 (by omega) (by omega) h9)
      · refine v_tswI (off := 491) X 8 540 (show nI 8 = (8 : Int32) from rfl) dL_law_49 (by decide) (by decide) ?_
        exact law_quote X hlt hX hbl hbA hi1 hi2 hi3 hi4 hR hf (fun σ9 h9 => tail _ _ σ9 (by omega) (by omega) h9)
      · refine v_tswI (off := 547) X 9 596 (show nI 9 = (9 : Int32) from rfl) dL_law_49 (by decide) (by decide) ?_
        exact law_register X hlt hX hbl hbA hi1 hi2 hi3 hi4 hR hf (fun σ9 h9 => tail _ _ σ9 (by omega) (by omega) h9)
      · refine v_tswI (off := 615) X 10 664 (show nI 10 = (10 : Int32) from rfl) dL_law_49 (by decide) (by decide) ?_
        exact law_memory X hlt hX hbl hbA hi1 hi2 hi3 hi4 hR hf (fun σ9 h9 => tail _ _ σ9 (by omega) (by omega) h9)
      · refine v_tswI (off := 671) X 11 720 (show nI 11 = (11 : Int32) from rfl) dL_law_49 (by decide) (by decide) ?_
        exact law_told X hlt hX hbl hbA hi1 hi2 hi3 hi4 hR hf (fun σ9 h9 => tail _ _ σ9 (by omega) (by omega) h9)
      · refine v_tswI (off := 739) X 12 788 (show nI 12 = (12 : Int32) from rfl) dL_law_49 (by decide) (by decide) ?_
        exact law_object X hlt hX hbl hbA hi1 hi2 hi3 hi4 hR hf (fun σ9 h9 => tail _ _ σ9 (by omega) (by omega) h9)
      · refine v_tswI (off := 807) X 13 856 (show nI 13 = (13 : Int32) from rfl) dL_law_49 (by decide) (by decide) ?_
        exact law_count X hX hbl hbA hi1 hi2 hi3 hi4 hR hf (fun σ9 h9 => tail _ _ σ9 (by omega) (by omega) h9)
      · refine v_tswO X 881 dL_law_49 (by decide) (by decide) ?_
        exact tail _ _ σ (by omega) (by omega) hR
      · refine v_tswO X 881 dL_law_49 (by decide) (by decide) ?_
        exact tail _ _ σ (by omega) (by omega) hR
end LAWL
