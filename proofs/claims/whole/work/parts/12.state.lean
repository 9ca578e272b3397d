/-! the cells by their numbers; what a row of the state is as a cell -/
abbrev iSM : Nat := 0
abbrev iMA : Nat := 1
abbrev iWO : Nat := 2
abbrev iAP : Nat := 3
abbrev iAC : Nat := 4
abbrev iAS : Nat := 5
abbrev iTT : Nat := 6
abbrev iTP : Nat := 7
abbrev iTL : Nat := 8
abbrev iMO : Nat := 29
abbrev iOUT : Nat := 53
abbrev i_memory : Nat := 30
abbrev i_image : Nat := 31
abbrev i_register : Nat := 32
abbrev i_from : Nat := 33
abbrev i_size : Nat := 34
abbrev i_policy : Nat := 35
abbrev i_pc : Nat := 36
abbrev i_faults : Nat := 37
abbrev i_kind : Nat := 38
abbrev i_restarts : Nat := 39
abbrev i_begun : Nat := 40
abbrev i_measure : Nat := 41
abbrev i_ready : Nat := 42
abbrev i_full : Nat := 43
abbrev i_owner : Nat := 44
abbrev i_length : Nat := 45
abbrev i_source : Nat := 46
abbrev i_readers : Nat := 47
abbrev i_period : Nat := 48
abbrev i_value : Nat := 49
abbrev i_hour : Nat := 50
abbrev i_holds : Nat := 51
abbrev i_seal : Nat := 52
def iP (p : Nat) : Nat := 9 + 3 * p
def iR (p : Nat) : Nat := 10 + 3 * p
def iI (p : Nat) : Nat := 11 + 3 * p
def iC (p : Nat) : Nat := 21 + p
def iS (p : Nat) : Nat := 25 + p
abbrev NW : Nat := 54
abbrev tyL (cA : Nat → ClassId) : List (ClassId × FieldType) := [(cA 0, .int), (cA 1, .object "SeparationMonitor$Partition"), (cA 2, .object "SeparationMonitor$Channel"), (cA 3, .object "SeparationMonitor$Slot"), (cA 4, .long), (cA 5, .boolean)]
def rcW (rh : Nat → Nat) (cA : Nat → ClassId) (i : Nat) (f : Nat → Int32) : va_E := match i with
  | 0 => .inr (5, [.ref (rh iMA), .ref (rh iTT), .int (f 2), .int (f 3), .int (f 4)])
  | 1 => .inr (1, [.int (f 0), .ref (rh iWO), .ref (rh iAP), .ref (rh iAC), .ref (rh iAS), .int (f 5), .int (f 6)])
  | 2 => .inl (cA 0, 96, .inl f)
  | 3 => .inl (cA 1, 4, .inr (.inr (.inr (.inr (fun k => some (rh (iP k)))))))
  | 4 => .inl (cA 2, 4, .inr (.inr (.inr (.inr (fun k => some (rh (iC k)))))))
  | 5 => .inl (cA 3, 4, .inr (.inr (.inr (.inr (fun k => some (rh (iS k)))))))
  | 6 => .inr (4, [.ref (rh iTP), .ref (rh iTL), .int (f 2), .int (f 3), .int (f 4), .int (f 5)])
  | 7 => .inl (cA 0, 6, .inl f)
  | 8 => .inl (cA 0, 6, .inl f)
  | 9 => .inr (2, [.int (f 0), .int (f 1), .int (f 2), .int (f 3), .int (f 4), .int (f 5), .int (f 6), .int (f 7), .ref (rh (iR 0)), .ref (rh (iI 0)), .int (f 10), .int (f 11), .int (f 12), .int (f 13)])
  | 10 => .inl (cA 0, 16, .inl f)
  | 11 => .inl (cA 0, 32, .inl f)
  | 12 => .inr (2, [.int (f 0), .int (f 1), .int (f 2), .int (f 3), .int (f 4), .int (f 5), .int (f 6), .int (f 7), .ref (rh (iR 1)), .ref (rh (iI 1)), .int (f 10), .int (f 11), .int (f 12), .int (f 13)])
  | 13 => .inl (cA 0, 16, .inl f)
  | 14 => .inl (cA 0, 32, .inl f)
  | 15 => .inr (2, [.int (f 0), .int (f 1), .int (f 2), .int (f 3), .int (f 4), .int (f 5), .int (f 6), .int (f 7), .ref (rh (iR 2)), .ref (rh (iI 2)), .int (f 10), .int (f 11), .int (f 12), .int (f 13)])
  | 16 => .inl (cA 0, 16, .inl f)
  | 17 => .inl (cA 0, 32, .inl f)
  | 18 => .inr (2, [.int (f 0), .int (f 1), .int (f 2), .int (f 3), .int (f 4), .int (f 5), .int (f 6), .int (f 7), .ref (rh (iR 3)), .ref (rh (iI 3)), .int (f 10), .int (f 11), .int (f 12), .int (f 13)])
  | 19 => .inl (cA 0, 16, .inl f)
  | 20 => .inl (cA 0, 32, .inl f)
  | 21 => .inr (0, [.int (f 0), .int (f 1), .int (f 2), .int (f 3), .int (f 4), .int (f 5)])
  | 22 => .inr (0, [.int (f 0), .int (f 1), .int (f 2), .int (f 3), .int (f 4), .int (f 5)])
  | 23 => .inr (0, [.int (f 0), .int (f 1), .int (f 2), .int (f 3), .int (f 4), .int (f 5)])
  | 24 => .inr (0, [.int (f 0), .int (f 1), .int (f 2), .int (f 3), .int (f 4), .int (f 5)])
  | 25 => .inr (3, [.int (f 0), .int (f 1)])
  | 26 => .inr (3, [.int (f 0), .int (f 1)])
  | 27 => .inr (3, [.int (f 0), .int (f 1)])
  | 28 => .inr (3, [.int (f 0), .int (f 1)])
  | 29 => .inr (6, [.ref (rh i_memory), .ref (rh i_image), .ref (rh i_register), .ref (rh i_from), .ref (rh i_size), .ref (rh i_policy), .ref (rh i_pc), .ref (rh i_faults), .ref (rh i_kind), .ref (rh i_restarts), .ref (rh i_begun), .ref (rh i_measure), .ref (rh i_ready), .ref (rh i_full), .ref (rh i_owner), .ref (rh i_length), .ref (rh i_source), .ref (rh i_readers), .ref (rh i_period), .ref (rh i_value), .ref (rh i_hour), .ref (rh i_holds), .ref (rh i_seal), .int (f 23), .int (f 24), .int (f 25), .int (f 26), .int (f 27), .int (f 28), .int (f 29), .int (f 30), .int (f 31), .int (f 32), .int (f 33)])
  | 30 => .inl (cA 0, 96, .inl f)
  | 31 => .inl (cA 0, 128, .inl f)
  | 32 => .inl (cA 0, 64, .inl f)
  | 33 => .inl (cA 0, 4, .inl f)
  | 34 => .inl (cA 0, 4, .inl f)
  | 35 => .inl (cA 0, 4, .inl f)
  | 36 => .inl (cA 0, 4, .inl f)
  | 37 => .inl (cA 0, 4, .inl f)
  | 38 => .inl (cA 0, 4, .inl f)
  | 39 => .inl (cA 0, 4, .inl f)
  | 40 => .inl (cA 0, 4, .inl f)
  | 41 => .inl (cA 0, 4, .inl f)
  | 42 => .inl (cA 5, 4, .inl f)
  | 43 => .inl (cA 5, 4, .inl f)
  | 44 => .inl (cA 0, 6, .inl f)
  | 45 => .inl (cA 0, 6, .inl f)
  | 46 => .inl (cA 0, 4, .inl f)
  | 47 => .inl (cA 0, 4, .inl f)
  | 48 => .inl (cA 0, 4, .inl f)
  | 49 => .inl (cA 0, 4, .inl f)
  | 50 => .inl (cA 0, 4, .inl f)
  | 51 => .inl (cA 0, 4, .inl f)
  | 52 => .inl (cA 0, 4, .inl f)
  | 53 => .inl (cA 4, 1, .inr (.inl (fun j => (f j).toInt64)))
  | _ => .inr (0, [])
theorem lt_SM : iSM < NW := by decide
theorem sh_SM {rh : Nat → Nat} {cA : Nat → ClassId} : ∀ f, rcW rh cA iSM f = .inr (5, [.ref (rh iMA), .ref (rh iTT), .int (f 2), .int (f 3), .int (f 4)]) := fun _ => rfl
theorem lt_MA : iMA < NW := by decide
theorem sh_MA {rh : Nat → Nat} {cA : Nat → ClassId} : ∀ f, rcW rh cA iMA f = .inr (1, [.int (f 0), .ref (rh iWO), .ref (rh iAP), .ref (rh iAC), .ref (rh iAS), .int (f 5), .int (f 6)]) := fun _ => rfl
theorem lt_TT : iTT < NW := by decide
theorem sh_TT {rh : Nat → Nat} {cA : Nat → ClassId} : ∀ f, rcW rh cA iTT f = .inr (4, [.ref (rh iTP), .ref (rh iTL), .int (f 2), .int (f 3), .int (f 4), .int (f 5)]) := fun _ => rfl
theorem lt_MO : iMO < NW := by decide
theorem sh_MO {rh : Nat → Nat} {cA : Nat → ClassId} : ∀ f, rcW rh cA iMO f = .inr (6, [.ref (rh i_memory), .ref (rh i_image), .ref (rh i_register), .ref (rh i_from), .ref (rh i_size), .ref (rh i_policy), .ref (rh i_pc), .ref (rh i_faults), .ref (rh i_kind), .ref (rh i_restarts), .ref (rh i_begun), .ref (rh i_measure), .ref (rh i_ready), .ref (rh i_full), .ref (rh i_owner), .ref (rh i_length), .ref (rh i_source), .ref (rh i_readers), .ref (rh i_period), .ref (rh i_value), .ref (rh i_hour), .ref (rh i_holds), .ref (rh i_seal), .int (f 23), .int (f 24), .int (f 25), .int (f 26), .int (f 27), .int (f 28), .int (f 29), .int (f 30), .int (f 31), .int (f 32), .int (f 33)]) := fun _ => rfl
theorem lt_WO : iWO < NW := by decide
theorem sh_WO {rh : Nat → Nat} {cA : Nat → ClassId} : ∀ f, rcW rh cA iWO f = .inl (cA 0, 96, .inl f) := fun _ => rfl
theorem lt_TP : iTP < NW := by decide
theorem sh_TP {rh : Nat → Nat} {cA : Nat → ClassId} : ∀ f, rcW rh cA iTP f = .inl (cA 0, 6, .inl f) := fun _ => rfl
theorem lt_TL : iTL < NW := by decide
theorem sh_TL {rh : Nat → Nat} {cA : Nat → ClassId} : ∀ f, rcW rh cA iTL f = .inl (cA 0, 6, .inl f) := fun _ => rfl
theorem lt_APT : iAP < NW := by decide
theorem sh_APT {rh : Nat → Nat} {cA : Nat → ClassId} : ∀ f, rcW rh cA iAP f = .inl (cA 1, 4, .inr (.inr (.inr (.inr (fun k => some (rh (iP k))))))) := fun _ => rfl
theorem lt_ACH : iAC < NW := by decide
theorem sh_ACH {rh : Nat → Nat} {cA : Nat → ClassId} : ∀ f, rcW rh cA iAC f = .inl (cA 2, 4, .inr (.inr (.inr (.inr (fun k => some (rh (iC k))))))) := fun _ => rfl
theorem lt_ASL : iAS < NW := by decide
theorem sh_ASL {rh : Nat → Nat} {cA : Nat → ClassId} : ∀ f, rcW rh cA iAS f = .inl (cA 3, 4, .inr (.inr (.inr (.inr (fun k => some (rh (iS k))))))) := fun _ => rfl
theorem lt_m_memory : i_memory < NW := by decide
theorem sh_m_memory {rh : Nat → Nat} {cA : Nat → ClassId} : ∀ f, rcW rh cA i_memory f = .inl (cA 0, 96, .inl f) := fun _ => rfl
theorem lt_m_image : i_image < NW := by decide
theorem sh_m_image {rh : Nat → Nat} {cA : Nat → ClassId} : ∀ f, rcW rh cA i_image f = .inl (cA 0, 128, .inl f) := fun _ => rfl
theorem lt_m_register : i_register < NW := by decide
theorem sh_m_register {rh : Nat → Nat} {cA : Nat → ClassId} : ∀ f, rcW rh cA i_register f = .inl (cA 0, 64, .inl f) := fun _ => rfl
theorem lt_m_from : i_from < NW := by decide
theorem sh_m_from {rh : Nat → Nat} {cA : Nat → ClassId} : ∀ f, rcW rh cA i_from f = .inl (cA 0, 4, .inl f) := fun _ => rfl
theorem lt_m_size : i_size < NW := by decide
theorem sh_m_size {rh : Nat → Nat} {cA : Nat → ClassId} : ∀ f, rcW rh cA i_size f = .inl (cA 0, 4, .inl f) := fun _ => rfl
theorem lt_m_policy : i_policy < NW := by decide
theorem sh_m_policy {rh : Nat → Nat} {cA : Nat → ClassId} : ∀ f, rcW rh cA i_policy f = .inl (cA 0, 4, .inl f) := fun _ => rfl
theorem lt_m_pc : i_pc < NW := by decide
theorem sh_m_pc {rh : Nat → Nat} {cA : Nat → ClassId} : ∀ f, rcW rh cA i_pc f = .inl (cA 0, 4, .inl f) := fun _ => rfl
theorem lt_m_faults : i_faults < NW := by decide
theorem sh_m_faults {rh : Nat → Nat} {cA : Nat → ClassId} : ∀ f, rcW rh cA i_faults f = .inl (cA 0, 4, .inl f) := fun _ => rfl
theorem lt_m_kind : i_kind < NW := by decide
theorem sh_m_kind {rh : Nat → Nat} {cA : Nat → ClassId} : ∀ f, rcW rh cA i_kind f = .inl (cA 0, 4, .inl f) := fun _ => rfl
theorem lt_m_restarts : i_restarts < NW := by decide
theorem sh_m_restarts {rh : Nat → Nat} {cA : Nat → ClassId} : ∀ f, rcW rh cA i_restarts f = .inl (cA 0, 4, .inl f) := fun _ => rfl
theorem lt_m_begun : i_begun < NW := by decide
theorem sh_m_begun {rh : Nat → Nat} {cA : Nat → ClassId} : ∀ f, rcW rh cA i_begun f = .inl (cA 0, 4, .inl f) := fun _ => rfl
theorem lt_m_measure : i_measure < NW := by decide
theorem sh_m_measure {rh : Nat → Nat} {cA : Nat → ClassId} : ∀ f, rcW rh cA i_measure f = .inl (cA 0, 4, .inl f) := fun _ => rfl
theorem lt_m_ready : i_ready < NW := by decide
theorem sh_m_ready {rh : Nat → Nat} {cA : Nat → ClassId} : ∀ f, rcW rh cA i_ready f = .inl (cA 5, 4, .inl f) := fun _ => rfl
theorem lt_m_full : i_full < NW := by decide
theorem sh_m_full {rh : Nat → Nat} {cA : Nat → ClassId} : ∀ f, rcW rh cA i_full f = .inl (cA 5, 4, .inl f) := fun _ => rfl
theorem lt_m_owner : i_owner < NW := by decide
theorem sh_m_owner {rh : Nat → Nat} {cA : Nat → ClassId} : ∀ f, rcW rh cA i_owner f = .inl (cA 0, 6, .inl f) := fun _ => rfl
theorem lt_m_length : i_length < NW := by decide
theorem sh_m_length {rh : Nat → Nat} {cA : Nat → ClassId} : ∀ f, rcW rh cA i_length f = .inl (cA 0, 6, .inl f) := fun _ => rfl
theorem lt_m_source : i_source < NW := by decide
theorem sh_m_source {rh : Nat → Nat} {cA : Nat → ClassId} : ∀ f, rcW rh cA i_source f = .inl (cA 0, 4, .inl f) := fun _ => rfl
theorem lt_m_readers : i_readers < NW := by decide
theorem sh_m_readers {rh : Nat → Nat} {cA : Nat → ClassId} : ∀ f, rcW rh cA i_readers f = .inl (cA 0, 4, .inl f) := fun _ => rfl
theorem lt_m_period : i_period < NW := by decide
theorem sh_m_period {rh : Nat → Nat} {cA : Nat → ClassId} : ∀ f, rcW rh cA i_period f = .inl (cA 0, 4, .inl f) := fun _ => rfl
theorem lt_m_value : i_value < NW := by decide
theorem sh_m_value {rh : Nat → Nat} {cA : Nat → ClassId} : ∀ f, rcW rh cA i_value f = .inl (cA 0, 4, .inl f) := fun _ => rfl
theorem lt_m_hour : i_hour < NW := by decide
theorem sh_m_hour {rh : Nat → Nat} {cA : Nat → ClassId} : ∀ f, rcW rh cA i_hour f = .inl (cA 0, 4, .inl f) := fun _ => rfl
theorem lt_m_holds : i_holds < NW := by decide
theorem sh_m_holds {rh : Nat → Nat} {cA : Nat → ClassId} : ∀ f, rcW rh cA i_holds f = .inl (cA 0, 4, .inl f) := fun _ => rfl
theorem lt_m_seal : i_seal < NW := by decide
theorem sh_m_seal {rh : Nat → Nat} {cA : Nat → ClassId} : ∀ f, rcW rh cA i_seal f = .inl (cA 0, 4, .inl f) := fun _ => rfl
theorem lt_PT {p : Nat} (hp : p < 4) : iP p < NW := by unfold iP NW; omega
theorem sh_PT {rh : Nat → Nat} {cA : Nat → ClassId} {p : Nat} (hp : p < 4) : ∀ f, rcW rh cA (iP p) f = .inr (2, [.int (f 0), .int (f 1), .int (f 2), .int (f 3), .int (f 4), .int (f 5), .int (f 6), .int (f 7), .ref (rh (iR p)), .ref (rh (iI p)), .int (f 10), .int (f 11), .int (f 12), .int (f 13)]) := fun f => by
  match p, hp with
  | 0, _ => rfl
  | 1, _ => rfl
  | 2, _ => rfl
  | 3, _ => rfl
theorem lt_RG {p : Nat} (hp : p < 4) : iR p < NW := by unfold iR NW; omega
theorem sh_RG {rh : Nat → Nat} {cA : Nat → ClassId} {p : Nat} (hp : p < 4) : ∀ f, rcW rh cA (iR p) f = .inl (cA 0, 16, .inl f) := fun f => by
  match p, hp with
  | 0, _ => rfl
  | 1, _ => rfl
  | 2, _ => rfl
  | 3, _ => rfl
theorem lt_IM {p : Nat} (hp : p < 4) : iI p < NW := by unfold iI NW; omega
theorem sh_IM {rh : Nat → Nat} {cA : Nat → ClassId} {p : Nat} (hp : p < 4) : ∀ f, rcW rh cA (iI p) f = .inl (cA 0, 32, .inl f) := fun f => by
  match p, hp with
  | 0, _ => rfl
  | 1, _ => rfl
  | 2, _ => rfl
  | 3, _ => rfl
theorem lt_CH {p : Nat} (hp : p < 4) : iC p < NW := by unfold iC NW; omega
theorem sh_CH {rh : Nat → Nat} {cA : Nat → ClassId} {p : Nat} (hp : p < 4) : ∀ f, rcW rh cA (iC p) f = .inr (0, [.int (f 0), .int (f 1), .int (f 2), .int (f 3), .int (f 4), .int (f 5)]) := fun f => by
  match p, hp with
  | 0, _ => rfl
  | 1, _ => rfl
  | 2, _ => rfl
  | 3, _ => rfl
theorem lt_SL {p : Nat} (hp : p < 4) : iS p < NW := by unfold iS NW; omega
theorem sh_SL {rh : Nat → Nat} {cA : Nat → ClassId} {p : Nat} (hp : p < 4) : ∀ f, rcW rh cA (iS p) f = .inr (3, [.int (f 0), .int (f 1)]) := fun f => by
  match p, hp with
  | 0, _ => rfl
  | 1, _ => rfl
  | 2, _ => rfl
  | 3, _ => rfl
theorem in_SM : ∀ w ∈ u_ws RX7 TX7 5, w ∈ gw := fun w h => gw_of ((by decide +kernel : ∀ w ∈ u_ws RX7 TX7 5, w ∈ lw_tbl) w h) ((by decide +kernel : ∀ w ∈ u_ws RX7 TX7 5, goodWord w = true) w h)
theorem in_MA : ∀ w ∈ u_ws RX2 TX2 7, w ∈ gw := fun w h => gw_of ((by decide +kernel : ∀ w ∈ u_ws RX2 TX2 7, w ∈ lw_tbl) w h) ((by decide +kernel : ∀ w ∈ u_ws RX2 TX2 7, goodWord w = true) w h)
theorem in_TT : ∀ w ∈ u_ws RX6 TX6 6, w ∈ gw := fun w h => gw_of ((by decide +kernel : ∀ w ∈ u_ws RX6 TX6 6, w ∈ lw_tbl) w h) ((by decide +kernel : ∀ w ∈ u_ws RX6 TX6 6, goodWord w = true) w h)
theorem in_PT : ∀ w ∈ u_ws RX3 TX3 14, w ∈ gw := fun w h => gw_of ((by decide +kernel : ∀ w ∈ u_ws RX3 TX3 14, w ∈ lw_tbl) w h) ((by decide +kernel : ∀ w ∈ u_ws RX3 TX3 14, goodWord w = true) w h)
theorem in_CH : ∀ w ∈ u_ws RX0 TX0 6, w ∈ gw := fun w h => gw_of ((by decide +kernel : ∀ w ∈ u_ws RX0 TX0 6, w ∈ lw_tbl) w h) ((by decide +kernel : ∀ w ∈ u_ws RX0 TX0 6, goodWord w = true) w h)
theorem in_SL : ∀ w ∈ u_ws RX5 TX5 2, w ∈ gw := fun w h => gw_of ((by decide +kernel : ∀ w ∈ u_ws RX5 TX5 2, w ∈ lw_tbl) w h) ((by decide +kernel : ∀ w ∈ u_ws RX5 TX5 2, goodWord w = true) w h)
theorem in_MO : ∀ w ∈ u_ws RX8 TX8 34, w ∈ gw := fun w h => gw_of ((by decide +kernel : ∀ w ∈ u_ws RX8 TX8 34, w ∈ lw_tbl) w h) ((by decide +kernel : ∀ w ∈ u_ws RX8 TX8 34, goodWord w = true) w h)
-- small rows
theorem vin_lt {j : Int32} {N : Nat} (h : vp_in j N) : j.toNatClampNeg < N := Nat.not_le.mp fun q => h (Or.inr q)
theorem vin_mk {j : Int32} {N : Nat} (h0 : 0 ≤ j.toInt) (h1 : j.toInt < (N : Int)) : vp_in j N := vp_in_iff.mpr ⟨h0, h1⟩
theorem ile {a b : Int32} : a ≤ b ↔ a.toInt ≤ b.toInt := Int32.le_iff_toInt_le
theorem ilt {a b : Int32} : a < b ↔ a.toInt < b.toInt := Int32.lt_iff_toInt_lt
theorem vin_c {j : Int32} {N : Nat} (M : Int32) (hM : M.toInt = (N : Int)) (h0 : ¬ j < 0) (h1 : ¬ M ≤ j) : vp_in j N := by
  rw [ilt] at h0; rw [ile] at h1
  have z : (0 : Int32).toInt = 0 := by decide
  exact vin_mk (by omega) (by omega)
theorem i_succ {i N : Int32} (h : ¬ N ≤ i) : (i + 1).toInt = i.toInt + 1 := by
  rw [ile] at h
  have h1 := Int32.toInt_lt N
  have h2 := Int32.le_toInt i
  have h3 : (1 : Int32).toInt = 1 := by decide
  rw [Int32.toInt_add, h3]
  apply Int.bmod_eq_of_le <;> omega
theorem zN {x : Int32} (h : x = 0 ∨ x = 1) : narrow .boolean (.int x) = .int x := by
  rcases h with rfl | rfl <;> decide
theorem zF {x : Int32} (h : x = 0 ∨ x = 1) : fits .boolean (.int x) = true := by
  rcases h with rfl | rfl <;> decide
theorem z_ite {c : Prop} [Decidable c] {a b : Int32} (ha : a = 0 ∨ a = 1) (hb : b = 0 ∨ b = 1) : (if c then a else b) = 0 ∨ (if c then a else b) = 1 := by
  split
  · exact ha
  · exact hb
theorem clamp_toInt {x : Int32} (h : 0 ≤ x.toInt) : (x.toNatClampNeg : Int) = x.toInt := by
  rw [show x.toNatClampNeg = x.toInt.toNat from rfl]
  omega
section ENDS
variable {p : Program} {l : Launch} {e : Env} {R : Room} {s : State} {m : MethodId} {args : Array Value} {below : List Frame} {meth : Method} {c : Code} {D : va_G} {A : Nat → Prop} {cc : ByteArray} {nL : Nat} {rh : Nat → Nat} {rc : Nat → (Nat → Int32) → va_E} {n : Nat} {cells slots : Nat} {Q : State → Prop} {pc : Nat} {lv : List (Nat × Value)} {σ σ' : St} {r x : Int32}
theorem v_endI (hend : ∀ (pc : Nat) (lv : List (Nat × Value)), decode cc pc = .ok (.ireturn, 1) → Vz p l e R s m args below meth c D A nL rh rc n cells slots Q pc lv [.int r] σ') (d : decode cc pc = .ok (.ireturn, 1)) (hr : r = x) (hs : σ' = σ) : Vz p l e R s m args below meth c D A nL rh rc n cells slots Q pc lv [.int x] σ := by
  subst hr; subst hs
  exact hend pc lv d
theorem v_endV (hend : ∀ (pc : Nat) (lv : List (Nat × Value)), decode cc pc = .ok (.return_, 1) → Vz p l e R s m args below meth c D A nL rh rc n cells slots Q pc lv [] σ') (d : decode cc pc = .ok (.return_, 1)) (hs : σ' = σ) : Vz p l e R s m args below meth c D A nL rh rc n cells slots Q pc lv [] σ := by
  subst hs
  exact hend pc lv d
end ENDS
theorem t0i : (0 : Int32).toInt = 0 := by decide
theorem nlt0 {x : Int32} (h : 0 ≤ x.toInt) : ¬ x < 0 := by
  rw [ilt, t0i]; omega
theorem nle {x M : Int32} {N : Nat} (hM : M.toInt = (N : Int)) (h : ¬ M ≤ x) : x.toInt < (N : Int) := by
  rw [ile] at h; omega
theorem vin_p {j : Int32} {N : Nat} (M : Int32) (hM : M.toInt = (N : Int)) (h0 : ¬ j ≤ 0) (h1 : ¬ M ≤ j) : vp_in j N := by
  rw [ile, t0i] at h0; rw [ile] at h1
  exact vin_mk (by omega) (by omega)
theorem cp_a {s : Int32} (h0 : 0 ≤ s.toInt) (h : s.toInt ≤ 32) : (0 : Int32).toNatClampNeg + s.toNatClampNeg ≤ 32 := by
  have h1 := clamp_toInt h0
  have h2 : (0 : Int32).toNatClampNeg = 0 := by decide
  omega
theorem cp_b {f s : Int32} (h0 : 0 ≤ f.toInt) (h1 : 0 ≤ s.toInt) (h : f.toInt + s.toInt ≤ 96) : f.toNatClampNeg + s.toNatClampNeg ≤ 96 := by
  have h2 := clamp_toInt h0
  have h3 := clamp_toInt h1
  omega
theorem up_row {σ : St} {i k j : Nat} {v : Int32} (h : j ≠ i) : up σ i k v j = σ j := by simp [up, upr, h]
theorem up_self {σ : St} {i k : Nat} {v : Int32} : up σ i k v i = upd (σ i) k v := by simp [up, upr]
theorem upr_row {σ : St} {i j : Nat} {f : Nat → Int32} (h : j ≠ i) : upr σ i f j = σ j := by simp [upr, h]
theorem upr_self {σ : St} {i : Nat} {f : Nat → Int32} : upr σ i f i = f := by simp [upr]
theorem up_slot {σ : St} {i k j k' : Nat} {v : Int32} (h : k' ≠ k) : up σ i k v j k' = σ j k' := by
  by_cases hj : j = i
  · subst hj; rw [up_self]; simp [upd, h]
  · rw [up_row hj]
/-! what always holds of the class's state: it keeps every index in its array -/
def Ic (σ : St) : Prop := (∀ p, p < 4 → σ (iP p) 0 = nI p ∧ 0 ≤ (σ (iP p) 1).toInt ∧ 0 ≤ (σ (iP p) 2).toInt ∧ (σ (iP p) 2).toInt ≤ 32 ∧ (σ (iP p) 1).toInt + (σ (iP p) 2).toInt ≤ 96) ∧ (0 ≤ (σ iTT 2).toInt ∧ (σ iTT 2).toInt ≤ 6) ∧ (0 ≤ (σ iTT 3).toInt ∧ (σ iTT 3).toInt < 6) ∧ ∀ w, w < 6 → 0 ≤ (σ iTP w).toInt ∧ (σ iTP w).toInt < 4
theorem Ic.nr {σ : St} (h : Ic σ) {p : Nat} (hp : p < 4) : σ (iP p) 0 = nI p := (h.1 p hp).1
theorem Ic.rg {σ : St} (h : Ic σ) {p : Nat} (hp : p < 4) : 0 ≤ (σ (iP p) 1).toInt ∧ 0 ≤ (σ (iP p) 2).toInt ∧ (σ (iP p) 2).toInt ≤ 32 ∧ (σ (iP p) 1).toInt + (σ (iP p) 2).toInt ≤ 96 := (h.1 p hp).2
theorem Ic.ts {σ : St} (h : Ic σ) : 0 ≤ (σ iTT 2).toInt ∧ (σ iTT 2).toInt ≤ 6 := h.2.1
theorem Ic.tc {σ : St} (h : Ic σ) : 0 ≤ (σ iTT 3).toInt ∧ (σ iTT 3).toInt < 6 := h.2.2.1
theorem Ic.tp {σ : St} (h : Ic σ) {w : Nat} (hw : w < 6) : 0 ≤ (σ iTP w).toInt ∧ (σ iTP w).toInt < 4 := h.2.2.2 w hw
theorem Ic.same {σ σ' : St} (h : Ic σ) (h1 : ∀ p, p < 4 → σ' (iP p) 0 = σ (iP p) 0 ∧ σ' (iP p) 1 = σ (iP p) 1 ∧ σ' (iP p) 2 = σ (iP p) 2) (h2 : σ' iTT 2 = σ iTT 2) (h3 : σ' iTT 3 = σ iTT 3) (h4 : ∀ w, w < 6 → σ' iTP w = σ iTP w) : Ic σ' := by
  refine ⟨fun p hp => ?_, by rw [h2]; exact h.2.1, by rw [h3]; exact h.2.2.1, fun w hw => by rw [h4 w hw]; exact h.2.2.2 w hw⟩
  obtain ⟨a, b, c⟩ := h1 p hp
  rw [a, b, c]
  exact h.1 p hp
theorem Ic.row {σ : St} {i : Nat} {f : Nat → Int32} (h : Ic σ) (h1 : ∀ p, p < 4 → iP p ≠ i) (h2 : iTT ≠ i) (h3 : iTP ≠ i) : Ic (upr σ i f) :=
  h.same (fun p hp => by rw [upr_row (h1 p hp)]; exact ⟨rfl, rfl, rfl⟩) (by rw [upr_row h2]) (by rw [upr_row h2]) (fun w _ => by rw [upr_row h3])
theorem Ic.upSM {σ : St} {k : Nat} {v : Int32} (h : Ic σ) : Ic (up σ iSM k v) := h.row (fun p hp => by unfold iP iSM; omega) (by unfold iTT iSM; omega) (by unfold iTP iSM; omega)
theorem Ic.upMA {σ : St} {k : Nat} {v : Int32} (h : Ic σ) : Ic (up σ iMA k v) := h.row (fun p hp => by unfold iP iMA; omega) (by unfold iTT iMA; omega) (by unfold iTP iMA; omega)
theorem Ic.upWO {σ : St} {k : Nat} {v : Int32} (h : Ic σ) : Ic (up σ iWO k v) := h.row (fun p hp => by unfold iP iWO; omega) (by unfold iTT iWO; omega) (by unfold iTP iWO; omega)
theorem Ic.upTL {σ : St} {k : Nat} {v : Int32} (h : Ic σ) : Ic (up σ iTL k v) := h.row (fun p hp => by unfold iP iTL; omega) (by unfold iTT iTL; omega) (by unfold iTP iTL; omega)
theorem Ic.upRG {σ : St} {q k : Nat} {v : Int32} (h : Ic σ) : Ic (up σ (iR q) k v) := h.row (fun p hp => by unfold iP iR; omega) (by unfold iTT iR; omega) (by unfold iTP iR; omega)
theorem Ic.upIM {σ : St} {q k : Nat} {v : Int32} (h : Ic σ) : Ic (up σ (iI q) k v) := h.row (fun p hp => by unfold iP iI; omega) (by unfold iTT iI; omega) (by unfold iTP iI; omega)
theorem Ic.upCH {σ : St} {q k : Nat} {v : Int32} (h : Ic σ) : Ic (up σ (iC q) k v) := h.row (fun p hp => by unfold iP iC; omega) (by unfold iTT iC; omega) (by unfold iTP iC; omega)
theorem Ic.upSL {σ : St} {q k : Nat} {v : Int32} (h : Ic σ) : Ic (up σ (iS q) k v) := h.row (fun p hp => by unfold iP iS; omega) (by unfold iTT iS; omega) (by unfold iTP iS; omega)
theorem Ic.uprWO {σ : St} {f : Nat → Int32} (h : Ic σ) : Ic (upr σ iWO f) := h.row (fun p hp => by unfold iP iWO; omega) (by unfold iTT iWO; omega) (by unfold iTP iWO; omega)
theorem Ic.uprIM {σ : St} {q : Nat} {f : Nat → Int32} (h : Ic σ) : Ic (upr σ (iI q) f) := h.row (fun p hp => by unfold iP iI; omega) (by unfold iTT iI; omega) (by unfold iTP iI; omega)
theorem Ic.upPT {σ : St} {q k : Nat} {v : Int32} (h : Ic σ) (hk : 2 < k) : Ic (up σ (iP q) k v) :=
  h.same (fun p _ => ⟨up_slot (by omega), up_slot (by omega), up_slot (by omega)⟩) (by rw [up_row (by unfold iTT iP; omega)]) (by rw [up_row (by unfold iTT iP; omega)]) (fun w _ => by rw [up_row (by unfold iTP iP; omega)])
theorem Ic.upTT {σ : St} {k : Nat} {v : Int32} (h : Ic σ) (hk : 3 < k) : Ic (up σ iTT k v) :=
  h.same (fun p hp => by rw [up_row (by unfold iTT iP; omega)]; exact ⟨rfl, rfl, rfl⟩) (up_slot (by omega)) (up_slot (by omega)) (fun w _ => by rw [up_row (by unfold iTP iTT; omega)])
/-- another window is the current one -/
theorem Ic.cur {σ : St} {v : Int32} (h : Ic σ) (hv : vp_in v 6) : Ic (up σ iTT 3 v) := by
  obtain ⟨h1, h2, h3, h4⟩ := h
  have e1 : ∀ p, up σ iTT 3 v (iP p) = σ (iP p) := fun p => up_row (by unfold iTT iP; omega)
  have e2 : up σ iTT 3 v iTT 2 = σ iTT 2 := up_slot (by decide)
  have e3 : up σ iTT 3 v iTT 3 = v := by rw [up_self]; simp [upd]
  have e4 : up σ iTT 3 v iTP = σ iTP := up_row (by decide)
  refine ⟨fun p hp => by rw [e1]; exact h1 p hp, by rw [e2]; exact h2, by rw [e3]; exact vp_in_iff.mp hv, fun w hw => by rw [e4]; exact h4 w hw⟩
theorem ew_in {σ : St} (hI : Ic σ) : vp_in (if (σ iTT 2) ≤ ((σ iTT 3) + 1) then 0 else ((σ iTT 3) + 1)) 6 := by
  have h1 := hI.ts
  have h2 := hI.tc
  split
  · exact vin_mk (by decide) (by decide)
  · rename_i h
    have h3 : ¬ (6 : Int32) ≤ σ iTT 3 := by
      rw [ile]
      have z : (6 : Int32).toInt = 6 := by decide
      omega
    have h4 := i_succ h3
    rw [ile, h4] at h
    exact vin_mk (by omega) (by rw [h4]; omega)
