section
-- ===== PART A: goes FIRST, ahead of the names: the tables' words, and 'selects' of the private methods out of them =====
/-- a private method of a class that the tables say can be made, by its rows of tables_1 -/
def lw_okq (q : MethodName × Nat) : Prop := (q.1.cls ≠ "java/lang/invoke/MethodHandle" ∧ q.1.cls ≠ "java/lang/invoke/VarHandle") ∧ Cond.instantiable q.1.cls q.2 ∈ tables_1 ∧ Cond.privateMethod q.1 ∈ tables_1 ∧ Cond.instanceMethod q.1 ∈ tables_1
theorem lw_p0 : lw_okq (⟨"java/lang/Throwable", "fillInStackTrace", "(I)Ljava/lang/Throwable;"⟩, 6) := ⟨⟨by decide +kernel, by decide +kernel⟩, List.mem_of_getElem? (i := 281) (by decide +kernel), List.mem_of_getElem? (i := 279) (by decide +kernel), List.mem_of_getElem? (i := 280) (by decide +kernel)⟩
theorem lw_p1 : lw_okq (⟨"SeparationMonitor$Partition", "clearRegisters", "()V"⟩, 14) := ⟨⟨by decide +kernel, by decide +kernel⟩, List.mem_of_getElem? (i := 33) (by decide +kernel), List.mem_of_getElem? (i := 404) (by decide +kernel), List.mem_of_getElem? (i := 405) (by decide +kernel)⟩
theorem lw_p2 : lw_okq (⟨"SeparationMonitor$Partition", "measured", "()I"⟩, 14) := ⟨⟨by decide +kernel, by decide +kernel⟩, List.mem_of_getElem? (i := 33) (by decide +kernel), List.mem_of_getElem? (i := 411) (by decide +kernel), List.mem_of_getElem? (i := 412) (by decide +kernel)⟩
theorem lw_p3 : lw_okq (⟨"SeparationMonitor$Timetable", "begin", "(I)V"⟩, 6) := ⟨⟨by decide +kernel, by decide +kernel⟩, List.mem_of_getElem? (i := 172) (by decide +kernel), List.mem_of_getElem? (i := 424) (by decide +kernel), List.mem_of_getElem? (i := 425) (by decide +kernel)⟩
theorem lw_p4 : lw_okq (⟨"SeparationMonitor", "tick", "()Z"⟩, 5) := ⟨⟨by decide +kernel, by decide +kernel⟩, List.mem_of_getElem? (i := 18) (by decide +kernel), List.mem_of_getElem? (i := 442) (by decide +kernel), List.mem_of_getElem? (i := 443) (by decide +kernel)⟩
theorem lw_p5 : lw_okq (⟨"SeparationMonitor$Machine", "execute", "(LSeparationMonitor$Partition;I)I"⟩, 7) := ⟨⟨by decide +kernel, by decide +kernel⟩, List.mem_of_getElem? (i := 26) (by decide +kernel), List.mem_of_getElem? (i := 466) (by decide +kernel), List.mem_of_getElem? (i := 467) (by decide +kernel)⟩
theorem lw_p6 : lw_okq (⟨"SeparationMonitor$Machine", "jump", "(LSeparationMonitor$Partition;II)I"⟩, 7) := ⟨⟨by decide +kernel, by decide +kernel⟩, List.mem_of_getElem? (i := 26) (by decide +kernel), List.mem_of_getElem? (i := 518) (by decide +kernel), List.mem_of_getElem? (i := 519) (by decide +kernel)⟩
theorem lw_p7 : lw_okq (⟨"SeparationMonitor$Machine", "readInto", "(LSeparationMonitor$Partition;II)I"⟩, 7) := ⟨⟨by decide +kernel, by decide +kernel⟩, List.mem_of_getElem? (i := 26) (by decide +kernel), List.mem_of_getElem? (i := 535) (by decide +kernel), List.mem_of_getElem? (i := 536) (by decide +kernel)⟩
theorem lw_p8 : lw_okq (⟨"SeparationMonitor$Machine", "isReadable", "(ILSeparationMonitor$Partition;)Z"⟩, 7) := ⟨⟨by decide +kernel, by decide +kernel⟩, List.mem_of_getElem? (i := 26) (by decide +kernel), List.mem_of_getElem? (i := 542) (by decide +kernel), List.mem_of_getElem? (i := 543) (by decide +kernel)⟩
theorem lw_p9 : lw_okq (⟨"SeparationMonitor$Machine", "write", "(LSeparationMonitor$Partition;II)I"⟩, 7) := ⟨⟨by decide +kernel, by decide +kernel⟩, List.mem_of_getElem? (i := 26) (by decide +kernel), List.mem_of_getElem? (i := 553) (by decide +kernel), List.mem_of_getElem? (i := 554) (by decide +kernel)⟩
theorem lw_p10 : lw_okq (⟨"SeparationMonitor$Machine", "serve", "(LSeparationMonitor$Partition;)I"⟩, 7) := ⟨⟨by decide +kernel, by decide +kernel⟩, List.mem_of_getElem? (i := 26) (by decide +kernel), List.mem_of_getElem? (i := 565) (by decide +kernel), List.mem_of_getElem? (i := 566) (by decide +kernel)⟩
theorem lw_p11 : lw_okq (⟨"SeparationMonitor$Machine", "tellAge", "(LSeparationMonitor$Partition;I)I"⟩, 7) := ⟨⟨by decide +kernel, by decide +kernel⟩, List.mem_of_getElem? (i := 26) (by decide +kernel), List.mem_of_getElem? (i := 569) (by decide +kernel), List.mem_of_getElem? (i := 570) (by decide +kernel)⟩
theorem lw_p12 : lw_okq (⟨"SeparationMonitor$Machine", "seal", "(LSeparationMonitor$Partition;II)I"⟩, 7) := ⟨⟨by decide +kernel, by decide +kernel⟩, List.mem_of_getElem? (i := 26) (by decide +kernel), List.mem_of_getElem? (i := 577) (by decide +kernel), List.mem_of_getElem? (i := 578) (by decide +kernel)⟩
theorem lw_p13 : lw_okq (⟨"SeparationMonitor$Machine", "open", "(LSeparationMonitor$Partition;I)I"⟩, 7) := ⟨⟨by decide +kernel, by decide +kernel⟩, List.mem_of_getElem? (i := 26) (by decide +kernel), List.mem_of_getElem? (i := 582) (by decide +kernel), List.mem_of_getElem? (i := 583) (by decide +kernel)⟩
theorem lw_p14 : lw_okq (⟨"SeparationMonitor$Partition", "restart", "([I)V"⟩, 14) := ⟨⟨by decide +kernel, by decide +kernel⟩, List.mem_of_getElem? (i := 33) (by decide +kernel), List.mem_of_getElem? (i := 590) (by decide +kernel), List.mem_of_getElem? (i := 591) (by decide +kernel)⟩
theorem lw_p15 : lw_okq (⟨"SeparationMonitorModel", "no", "(II)Z"⟩, 34) := ⟨⟨by decide +kernel, by decide +kernel⟩, List.mem_of_getElem? (i := 644) (by decide +kernel), List.mem_of_getElem? (i := 762) (by decide +kernel), List.mem_of_getElem? (i := 763) (by decide +kernel)⟩
def lw_privs_1 : List (MethodName × Nat) := [(⟨"java/lang/Throwable", "fillInStackTrace", "(I)Ljava/lang/Throwable;"⟩, 6), (⟨"SeparationMonitor$Partition", "clearRegisters", "()V"⟩, 14), (⟨"SeparationMonitor$Partition", "measured", "()I"⟩, 14), (⟨"SeparationMonitor$Timetable", "begin", "(I)V"⟩, 6), (⟨"SeparationMonitor", "tick", "()Z"⟩, 5), (⟨"SeparationMonitor$Machine", "execute", "(LSeparationMonitor$Partition;I)I"⟩, 7), (⟨"SeparationMonitor$Machine", "jump", "(LSeparationMonitor$Partition;II)I"⟩, 7), (⟨"SeparationMonitor$Machine", "readInto", "(LSeparationMonitor$Partition;II)I"⟩, 7), (⟨"SeparationMonitor$Machine", "isReadable", "(ILSeparationMonitor$Partition;)Z"⟩, 7), (⟨"SeparationMonitor$Machine", "write", "(LSeparationMonitor$Partition;II)I"⟩, 7), (⟨"SeparationMonitor$Machine", "serve", "(LSeparationMonitor$Partition;)I"⟩, 7), (⟨"SeparationMonitor$Machine", "tellAge", "(LSeparationMonitor$Partition;I)I"⟩, 7), (⟨"SeparationMonitor$Machine", "seal", "(LSeparationMonitor$Partition;II)I"⟩, 7), (⟨"SeparationMonitor$Machine", "open", "(LSeparationMonitor$Partition;I)I"⟩, 7), (⟨"SeparationMonitor$Partition", "restart", "([I)V"⟩, 14), (⟨"SeparationMonitorModel", "no", "(II)Z"⟩, 34)]
theorem lw_r1 : ∀ q ∈ lw_privs_1, lw_okq q := List.forall_mem_cons.mpr ⟨lw_p0, List.forall_mem_cons.mpr ⟨lw_p1, List.forall_mem_cons.mpr ⟨lw_p2, List.forall_mem_cons.mpr ⟨lw_p3, List.forall_mem_cons.mpr ⟨lw_p4, List.forall_mem_cons.mpr ⟨lw_p5, List.forall_mem_cons.mpr ⟨lw_p6, List.forall_mem_cons.mpr ⟨lw_p7, List.forall_mem_cons.mpr ⟨lw_p8, List.forall_mem_cons.mpr ⟨lw_p9, List.forall_mem_cons.mpr ⟨lw_p10, List.forall_mem_cons.mpr ⟨lw_p11, List.forall_mem_cons.mpr ⟨lw_p12, List.forall_mem_cons.mpr ⟨lw_p13, List.forall_mem_cons.mpr ⟨lw_p14, List.forall_mem_cons.mpr ⟨lw_p15, fun _ h => absurd h List.not_mem_nil⟩⟩⟩⟩⟩⟩⟩⟩⟩⟩⟩⟩⟩⟩⟩⟩
theorem lw_p16 : lw_okq (⟨"SeparationMonitorModel", "set", "(Z)Z"⟩, 34) := ⟨⟨by decide +kernel, by decide +kernel⟩, List.mem_of_getElem? (i := 644) (by decide +kernel), List.mem_of_getElem? (i := 766) (by decide +kernel), List.mem_of_getElem? (i := 767) (by decide +kernel)⟩
theorem lw_p17 : lw_okq (⟨"SeparationMonitorModel", "clear", "(I)V"⟩, 34) := ⟨⟨by decide +kernel, by decide +kernel⟩, List.mem_of_getElem? (i := 644) (by decide +kernel), List.mem_of_getElem? (i := 790) (by decide +kernel), List.mem_of_getElem? (i := 791) (by decide +kernel)⟩
theorem lw_p18 : lw_okq (⟨"SeparationMonitorModel", "mix", "(II)I"⟩, 34) := ⟨⟨by decide +kernel, by decide +kernel⟩, List.mem_of_getElem? (i := 644) (by decide +kernel), List.mem_of_getElem? (i := 794) (by decide +kernel), List.mem_of_getElem? (i := 795) (by decide +kernel)⟩
theorem lw_p19 : lw_okq (⟨"SeparationMonitorModel", "step", "(I)V"⟩, 34) := ⟨⟨by decide +kernel, by decide +kernel⟩, List.mem_of_getElem? (i := 644) (by decide +kernel), List.mem_of_getElem? (i := 807) (by decide +kernel), List.mem_of_getElem? (i := 808) (by decide +kernel)⟩
theorem lw_p20 : lw_okq (⟨"SeparationMonitorModel", "inside", "(II)Z"⟩, 34) := ⟨⟨by decide +kernel, by decide +kernel⟩, List.mem_of_getElem? (i := 644) (by decide +kernel), List.mem_of_getElem? (i := 811) (by decide +kernel), List.mem_of_getElem? (i := 812) (by decide +kernel)⟩
theorem lw_p21 : lw_okq (⟨"SeparationMonitorModel", "known", "(I)Z"⟩, 34) := ⟨⟨by decide +kernel, by decide +kernel⟩, List.mem_of_getElem? (i := 644) (by decide +kernel), List.mem_of_getElem? (i := 815) (by decide +kernel), List.mem_of_getElem? (i := 816) (by decide +kernel)⟩
theorem lw_p22 : lw_okq (⟨"SeparationMonitorModel", "perform", "(II)I"⟩, 34) := ⟨⟨by decide +kernel, by decide +kernel⟩, List.mem_of_getElem? (i := 644) (by decide +kernel), List.mem_of_getElem? (i := 820) (by decide +kernel), List.mem_of_getElem? (i := 821) (by decide +kernel)⟩
theorem lw_p23 : lw_okq (⟨"SeparationMonitorModel", "put", "(III)V"⟩, 34) := ⟨⟨by decide +kernel, by decide +kernel⟩, List.mem_of_getElem? (i := 644) (by decide +kernel), List.mem_of_getElem? (i := 824) (by decide +kernel), List.mem_of_getElem? (i := 825) (by decide +kernel)⟩
theorem lw_p24 : lw_okq (⟨"SeparationMonitorModel", "goes", "(III)Z"⟩, 34) := ⟨⟨by decide +kernel, by decide +kernel⟩, List.mem_of_getElem? (i := 644) (by decide +kernel), List.mem_of_getElem? (i := 829) (by decide +kernel), List.mem_of_getElem? (i := 830) (by decide +kernel)⟩
theorem lw_p25 : lw_okq (⟨"SeparationMonitorModel", "below", "(II)Z"⟩, 34) := ⟨⟨by decide +kernel, by decide +kernel⟩, List.mem_of_getElem? (i := 644) (by decide +kernel), List.mem_of_getElem? (i := 833) (by decide +kernel), List.mem_of_getElem? (i := 834) (by decide +kernel)⟩
theorem lw_p26 : lw_okq (⟨"SeparationMonitorModel", "loads", "(III)I"⟩, 34) := ⟨⟨by decide +kernel, by decide +kernel⟩, List.mem_of_getElem? (i := 644) (by decide +kernel), List.mem_of_getElem? (i := 838) (by decide +kernel), List.mem_of_getElem? (i := 839) (by decide +kernel)⟩
theorem lw_p27 : lw_okq (⟨"SeparationMonitorModel", "at", "(I)I"⟩, 34) := ⟨⟨by decide +kernel, by decide +kernel⟩, List.mem_of_getElem? (i := 644) (by decide +kernel), List.mem_of_getElem? (i := 842) (by decide +kernel), List.mem_of_getElem? (i := 843) (by decide +kernel)⟩
theorem lw_p28 : lw_okq (⟨"SeparationMonitorModel", "stores", "(III)I"⟩, 34) := ⟨⟨by decide +kernel, by decide +kernel⟩, List.mem_of_getElem? (i := 644) (by decide +kernel), List.mem_of_getElem? (i := 846) (by decide +kernel), List.mem_of_getElem? (i := 847) (by decide +kernel)⟩
theorem lw_p29 : lw_okq (⟨"SeparationMonitorModel", "sum", "(IIIZ)I"⟩, 34) := ⟨⟨by decide +kernel, by decide +kernel⟩, List.mem_of_getElem? (i := 644) (by decide +kernel), List.mem_of_getElem? (i := 850) (by decide +kernel), List.mem_of_getElem? (i := 851) (by decide +kernel)⟩
theorem lw_p30 : lw_okq (⟨"SeparationMonitorModel", "calls", "(I)I"⟩, 34) := ⟨⟨by decide +kernel, by decide +kernel⟩, List.mem_of_getElem? (i := 644) (by decide +kernel), List.mem_of_getElem? (i := 854) (by decide +kernel), List.mem_of_getElem? (i := 855) (by decide +kernel)⟩
theorem lw_p31 : lw_okq (⟨"SeparationMonitorModel", "fault", "(II)V"⟩, 34) := ⟨⟨by decide +kernel, by decide +kernel⟩, List.mem_of_getElem? (i := 644) (by decide +kernel), List.mem_of_getElem? (i := 858) (by decide +kernel), List.mem_of_getElem? (i := 859) (by decide +kernel)⟩
def lw_privs_2 : List (MethodName × Nat) := [(⟨"SeparationMonitorModel", "set", "(Z)Z"⟩, 34), (⟨"SeparationMonitorModel", "clear", "(I)V"⟩, 34), (⟨"SeparationMonitorModel", "mix", "(II)I"⟩, 34), (⟨"SeparationMonitorModel", "step", "(I)V"⟩, 34), (⟨"SeparationMonitorModel", "inside", "(II)Z"⟩, 34), (⟨"SeparationMonitorModel", "known", "(I)Z"⟩, 34), (⟨"SeparationMonitorModel", "perform", "(II)I"⟩, 34), (⟨"SeparationMonitorModel", "put", "(III)V"⟩, 34), (⟨"SeparationMonitorModel", "goes", "(III)Z"⟩, 34), (⟨"SeparationMonitorModel", "below", "(II)Z"⟩, 34), (⟨"SeparationMonitorModel", "loads", "(III)I"⟩, 34), (⟨"SeparationMonitorModel", "at", "(I)I"⟩, 34), (⟨"SeparationMonitorModel", "stores", "(III)I"⟩, 34), (⟨"SeparationMonitorModel", "sum", "(IIIZ)I"⟩, 34), (⟨"SeparationMonitorModel", "calls", "(I)I"⟩, 34), (⟨"SeparationMonitorModel", "fault", "(II)V"⟩, 34)]
theorem lw_r2 : ∀ q ∈ lw_privs_2, lw_okq q := List.forall_mem_cons.mpr ⟨lw_p16, List.forall_mem_cons.mpr ⟨lw_p17, List.forall_mem_cons.mpr ⟨lw_p18, List.forall_mem_cons.mpr ⟨lw_p19, List.forall_mem_cons.mpr ⟨lw_p20, List.forall_mem_cons.mpr ⟨lw_p21, List.forall_mem_cons.mpr ⟨lw_p22, List.forall_mem_cons.mpr ⟨lw_p23, List.forall_mem_cons.mpr ⟨lw_p24, List.forall_mem_cons.mpr ⟨lw_p25, List.forall_mem_cons.mpr ⟨lw_p26, List.forall_mem_cons.mpr ⟨lw_p27, List.forall_mem_cons.mpr ⟨lw_p28, List.forall_mem_cons.mpr ⟨lw_p29, List.forall_mem_cons.mpr ⟨lw_p30, List.forall_mem_cons.mpr ⟨lw_p31, fun _ h => absurd h List.not_mem_nil⟩⟩⟩⟩⟩⟩⟩⟩⟩⟩⟩⟩⟩⟩⟩⟩
def lw_privs : List (MethodName × Nat) := lw_privs_1 ++ (lw_privs_2)
def lw_tbl : List Cond := k2_sels lw_privs ++ tables_1
theorem lw_privs_ok : ∀ q ∈ lw_privs, lw_okq q := by
  show ∀ q ∈ lw_privs_1 ++ (lw_privs_2), lw_okq q
  exact List.forall_mem_append.mpr ⟨lw_r1, lw_r2⟩
end
section
def RX0 : String := "SeparationMonitor$Channel"
def TX0 : u_T := fun k => match k with
  | 0 => ("SeparationMonitor$Channel", "source", "I", false)
  | 1 => ("SeparationMonitor$Channel", "readers", "I", false)
  | 2 => ("SeparationMonitor$Channel", "period", "I", false)
  | 3 => ("SeparationMonitor$Channel", "full", "Z", false)
  | 4 => ("SeparationMonitor$Channel", "value", "I", false)
  | _ => ("SeparationMonitor$Channel", "hour", "I", false)
def tyX0 : Nat → FieldType := fun k => match k with
  | 0 => .int
  | 1 => .int
  | 2 => .int
  | 3 => .boolean
  | 4 => .int
  | _ => .int
theorem nX0 : ∀ a, a < 6 → ∀ b, b < 6 → a ≠ b → (TX0 a).2.1 ≠ (TX0 b).2.1 := by decide +kernel
theorem tyX0_ok : ∀ k, k < 6 → parseFieldDescriptor (TX0 k).2.2.1 = some (tyX0 k) := by decide +kernel
def RX1 : String := "SeparationMonitor$Code"
def RX2 : String := "SeparationMonitor$Machine"
def TX2 : u_T := fun k => match k with
  | 0 => ("SeparationMonitor$Machine", "key", "I", true)
  | 1 => ("SeparationMonitor$Machine", "words", "[I", true)
  | 2 => ("SeparationMonitor$Machine", "partitions", "[LSeparationMonitor$Partition;", true)
  | 3 => ("SeparationMonitor$Machine", "channels", "[LSeparationMonitor$Channel;", true)
  | 4 => ("SeparationMonitor$Machine", "slots", "[LSeparationMonitor$Slot;", true)
  | 5 => ("SeparationMonitor$Machine", "time", "I", false)
  | _ => ("SeparationMonitor$Machine", "next", "I", false)
def tyX2 : Nat → FieldType := fun k => match k with
  | 0 => .int
  | 1 => (.array .int)
  | 2 => (.array (.object "SeparationMonitor$Partition"))
  | 3 => (.array (.object "SeparationMonitor$Channel"))
  | 4 => (.array (.object "SeparationMonitor$Slot"))
  | 5 => .int
  | _ => .int
theorem nX2 : ∀ a, a < 7 → ∀ b, b < 7 → a ≠ b → (TX2 a).2.1 ≠ (TX2 b).2.1 := by decide +kernel
theorem tyX2_ok : ∀ k, k < 7 → parseFieldDescriptor (TX2 k).2.2.1 = some (tyX2 k) := by decide +kernel
def RX3 : String := "SeparationMonitor$Partition"
def TX3 : u_T := fun k => match k with
  | 0 => ("SeparationMonitor$Partition", "number", "I", true)
  | 1 => ("SeparationMonitor$Partition", "first", "I", false)
  | 2 => ("SeparationMonitor$Partition", "size", "I", false)
  | 3 => ("SeparationMonitor$Partition", "how", "I", false)
  | 4 => ("SeparationMonitor$Partition", "measurement", "I", false)
  | 5 => ("SeparationMonitor$Partition", "pc", "I", false)
  | 6 => ("SeparationMonitor$Partition", "ready", "Z", false)
  | 7 => ("SeparationMonitor$Partition", "resting", "Z", false)
  | 8 => ("SeparationMonitor$Partition", "registers", "[I", true)
  | 9 => ("SeparationMonitor$Partition", "image", "[I", true)
  | 10 => ("SeparationMonitor$Partition", "faults", "I", false)
  | 11 => ("SeparationMonitor$Partition", "latestFault", "I", false)
  | 12 => ("SeparationMonitor$Partition", "restarts", "I", false)
  | _ => ("SeparationMonitor$Partition", "begun", "I", false)
def tyX3 : Nat → FieldType := fun k => match k with
  | 0 => .int
  | 1 => .int
  | 2 => .int
  | 3 => .int
  | 4 => .int
  | 5 => .int
  | 6 => .boolean
  | 7 => .boolean
  | 8 => (.array .int)
  | 9 => (.array .int)
  | 10 => .int
  | 11 => .int
  | 12 => .int
  | _ => .int
theorem nX3 : ∀ a, a < 14 → ∀ b, b < 14 → a ≠ b → (TX3 a).2.1 ≠ (TX3 b).2.1 := by decide +kernel
theorem tyX3_ok : ∀ k, k < 14 → parseFieldDescriptor (TX3 k).2.2.1 = some (tyX3 k) := by decide +kernel
def RX4 : String := "SeparationMonitor$Reckoner"
def RX5 : String := "SeparationMonitor$Slot"
def TX5 : u_T := fun k => match k with
  | 0 => ("SeparationMonitor$Slot", "held", "I", false)
  | _ => ("SeparationMonitor$Slot", "mark", "I", false)
def tyX5 : Nat → FieldType := fun k => match k with
  | 0 => .int
  | _ => .int
theorem nX5 : ∀ a, a < 2 → ∀ b, b < 2 → a ≠ b → (TX5 a).2.1 ≠ (TX5 b).2.1 := by decide +kernel
theorem tyX5_ok : ∀ k, k < 2 → parseFieldDescriptor (TX5 k).2.2.1 = some (tyX5 k) := by decide +kernel
def RX6 : String := "SeparationMonitor$Timetable"
def TX6 : u_T := fun k => match k with
  | 0 => ("SeparationMonitor$Timetable", "partitions", "[I", true)
  | 1 => ("SeparationMonitor$Timetable", "lengths", "[I", true)
  | 2 => ("SeparationMonitor$Timetable", "size", "I", false)
  | 3 => ("SeparationMonitor$Timetable", "current", "I", false)
  | 4 => ("SeparationMonitor$Timetable", "left", "I", false)
  | _ => ("SeparationMonitor$Timetable", "begun", "I", false)
def tyX6 : Nat → FieldType := fun k => match k with
  | 0 => (.array .int)
  | 1 => (.array .int)
  | 2 => .int
  | 3 => .int
  | 4 => .int
  | _ => .int
theorem nX6 : ∀ a, a < 6 → ∀ b, b < 6 → a ≠ b → (TX6 a).2.1 ≠ (TX6 b).2.1 := by decide +kernel
theorem tyX6_ok : ∀ k, k < 6 → parseFieldDescriptor (TX6 k).2.2.1 = some (tyX6 k) := by decide +kernel
def RX7 : String := "SeparationMonitor"
def TX7 : u_T := fun k => match k with
  | 0 => ("SeparationMonitor", "machine", "LSeparationMonitor$Machine;", true)
  | 1 => ("SeparationMonitor", "timetable", "LSeparationMonitor$Timetable;", true)
  | 2 => ("SeparationMonitor", "booted", "Z", false)
  | 3 => ("SeparationMonitor", "boots", "I", false)
  | _ => ("SeparationMonitor", "log", "I", false)
def tyX7 : Nat → FieldType := fun k => match k with
  | 0 => (.object "SeparationMonitor$Machine")
  | 1 => (.object "SeparationMonitor$Timetable")
  | 2 => .boolean
  | 3 => .int
  | _ => .int
theorem nX7 : ∀ a, a < 5 → ∀ b, b < 5 → a ≠ b → (TX7 a).2.1 ≠ (TX7 b).2.1 := by decide +kernel
theorem tyX7_ok : ∀ k, k < 5 → parseFieldDescriptor (TX7 k).2.2.1 = some (tyX7 k) := by decide +kernel
def RX8 : String := "SeparationMonitorModel"
def TX8 : u_T := fun k => match k with
  | 0 => ("SeparationMonitorModel", "memory", "[I", true)
  | 1 => ("SeparationMonitorModel", "image", "[I", true)
  | 2 => ("SeparationMonitorModel", "register", "[I", true)
  | 3 => ("SeparationMonitorModel", "from", "[I", true)
  | 4 => ("SeparationMonitorModel", "size", "[I", true)
  | 5 => ("SeparationMonitorModel", "policy", "[I", true)
  | 6 => ("SeparationMonitorModel", "pc", "[I", true)
  | 7 => ("SeparationMonitorModel", "faults", "[I", true)
  | 8 => ("SeparationMonitorModel", "kind", "[I", true)
  | 9 => ("SeparationMonitorModel", "restarts", "[I", true)
  | 10 => ("SeparationMonitorModel", "begun", "[I", true)
  | 11 => ("SeparationMonitorModel", "measure", "[I", true)
  | 12 => ("SeparationMonitorModel", "ready", "[Z", true)
  | 13 => ("SeparationMonitorModel", "full", "[Z", true)
  | 14 => ("SeparationMonitorModel", "owner", "[I", true)
  | 15 => ("SeparationMonitorModel", "length", "[I", true)
  | 16 => ("SeparationMonitorModel", "source", "[I", true)
  | 17 => ("SeparationMonitorModel", "readers", "[I", true)
  | 18 => ("SeparationMonitorModel", "period", "[I", true)
  | 19 => ("SeparationMonitorModel", "value", "[I", true)
  | 20 => ("SeparationMonitorModel", "hour", "[I", true)
  | 21 => ("SeparationMonitorModel", "holds", "[I", true)
  | 22 => ("SeparationMonitorModel", "seal", "[I", true)
  | 23 => ("SeparationMonitorModel", "secret", "I", true)
  | 24 => ("SeparationMonitorModel", "booted", "Z", false)
  | 25 => ("SeparationMonitorModel", "silent", "Z", false)
  | 26 => ("SeparationMonitorModel", "windows", "I", false)
  | 27 => ("SeparationMonitorModel", "at", "I", false)
  | 28 => ("SeparationMonitorModel", "left", "I", false)
  | 29 => ("SeparationMonitorModel", "time", "I", false)
  | 30 => ("SeparationMonitorModel", "log", "I", false)
  | 31 => ("SeparationMonitorModel", "opened", "I", false)
  | 32 => ("SeparationMonitorModel", "boots", "I", false)
  | _ => ("SeparationMonitorModel", "thrown", "I", false)
def tyX8 : Nat → FieldType := fun k => match k with
  | 0 => (.array .int)
  | 1 => (.array .int)
  | 2 => (.array .int)
  | 3 => (.array .int)
  | 4 => (.array .int)
  | 5 => (.array .int)
  | 6 => (.array .int)
  | 7 => (.array .int)
  | 8 => (.array .int)
  | 9 => (.array .int)
  | 10 => (.array .int)
  | 11 => (.array .int)
  | 12 => (.array .boolean)
  | 13 => (.array .boolean)
  | 14 => (.array .int)
  | 15 => (.array .int)
  | 16 => (.array .int)
  | 17 => (.array .int)
  | 18 => (.array .int)
  | 19 => (.array .int)
  | 20 => (.array .int)
  | 21 => (.array .int)
  | 22 => (.array .int)
  | 23 => .int
  | 24 => .boolean
  | 25 => .boolean
  | 26 => .int
  | 27 => .int
  | 28 => .int
  | 29 => .int
  | 30 => .int
  | 31 => .int
  | 32 => .int
  | _ => .int
theorem nX8 : ∀ a, a < 34 → ∀ b, b < 34 → a ≠ b → (TX8 a).2.1 ≠ (TX8 b).2.1 := by decide +kernel
theorem tyX8_ok : ∀ k, k < 34 → parseFieldDescriptor (TX8 k).2.2.1 = some (tyX8 k) := by decide +kernel
def RL : String := "SeparationMonitorLaw"
abbrev vwCl : List vw_C := [(RX0, TX0, 6), (RX2, TX2, 7), (RX3, TX3, 14), (RX5, TX5, 2), (RX6, TX6, 6), (RX7, TX7, 5), (RX8, TX8, 34)]
abbrev cX7_init : ByteArray := prog_1_method_1_code
def yX7_init : MethodName := ⟨RX7, "<init>", "(I)V"⟩
abbrev cX7_region : ByteArray := prog_1_method_2_code
def yX7_region : MethodName := ⟨RX7, "region", "(III)V"⟩
abbrev cX7_load : ByteArray := prog_1_method_3_code
def yX7_load : MethodName := ⟨RX7, "load", "(II)V"⟩
abbrev cX7_policy : ByteArray := prog_1_method_4_code
def yX7_policy : MethodName := ⟨RX7, "policy", "(II)V"⟩
abbrev cX7_window : ByteArray := prog_1_method_5_code
def yX7_window : MethodName := ⟨RX7, "window", "(II)I"⟩
abbrev cX7_channel : ByteArray := prog_1_method_6_code
def yX7_channel : MethodName := ⟨RX7, "channel", "(IIII)V"⟩
abbrev cX7_boot : ByteArray := prog_1_method_7_code
def yX7_boot : MethodName := ⟨RX7, "boot", "()I"⟩
abbrev cX7_reset : ByteArray := prog_1_method_8_code
def yX7_reset : MethodName := ⟨RX7, "reset", "()V"⟩
abbrev cX7_run : ByteArray := prog_1_method_9_code
def yX7_run : MethodName := ⟨RX7, "run", "(I)I"⟩
abbrev cX7_quote : ByteArray := prog_1_method_10_code
def yX7_quote : MethodName := ⟨RX7, "quote", "(I)I"⟩
abbrev cX7_register : ByteArray := prog_1_method_11_code
def yX7_register : MethodName := ⟨RX7, "register", "(II)I"⟩
abbrev cX7_memory : ByteArray := prog_1_method_12_code
def yX7_memory : MethodName := ⟨RX7, "memory", "(I)I"⟩
abbrev cX7_told : ByteArray := prog_1_method_13_code
def yX7_told : MethodName := ⟨RX7, "told", "(II)I"⟩
abbrev cX7_object : ByteArray := prog_1_method_14_code
def yX7_object : MethodName := ⟨RX7, "object", "(II)I"⟩
abbrev cX7_count : ByteArray := prog_1_method_15_code
def yX7_count : MethodName := ⟨RX7, "count", "(I)I"⟩
abbrev cX7_tick : ByteArray := prog_1_method_16_code
def yX7_tick : MethodName := ⟨RX7, "tick", "()Z"⟩
abbrev cX7_mix : ByteArray := prog_1_method_17_code
def yX7_mix : MethodName := ⟨RX7, "mix", "(II)I"⟩
abbrev cX7_within : ByteArray := prog_1_method_18_code
def yX7_within : MethodName := ⟨RX7, "within", "(III)Z"⟩
abbrev cX7_isPartition : ByteArray := prog_1_method_19_code
def yX7_isPartition : MethodName := ⟨RX7, "isPartition", "(I)Z"⟩
abbrev cX7_isChannel : ByteArray := prog_1_method_20_code
def yX7_isChannel : MethodName := ⟨RX7, "isChannel", "(I)Z"⟩
abbrev cX7_isWord : ByteArray := prog_1_method_21_code
def yX7_isWord : MethodName := ⟨RX7, "isWord", "(I)Z"⟩
abbrev cX7_refuseBadUnless : ByteArray := prog_1_method_22_code
def yX7_refuseBadUnless : MethodName := ⟨RX7, "refuseBadUnless", "(Z)V"⟩
abbrev cX7_refuseNowUnless : ByteArray := prog_1_method_23_code
def yX7_refuseNowUnless : MethodName := ⟨RX7, "refuseNowUnless", "(Z)V"⟩
abbrev cX8_init : ByteArray := prog_10_method_1_code
def yX8_init : MethodName := ⟨RX8, "<init>", "(I)V"⟩
abbrev cX8_thrown : ByteArray := prog_10_method_2_code
def yX8_thrown : MethodName := ⟨RX8, "thrown", "()I"⟩
abbrev cX8_mix : ByteArray := prog_10_method_3_code
def yX8_mix : MethodName := ⟨RX8, "mix", "(II)I"⟩
abbrev cX8_no : ByteArray := prog_10_method_4_code
def yX8_no : MethodName := ⟨RX8, "no", "(II)Z"⟩
abbrev cX8_set : ByteArray := prog_10_method_5_code
def yX8_set : MethodName := ⟨RX8, "set", "(Z)Z"⟩
abbrev cX8_region : ByteArray := prog_10_method_6_code
def yX8_region : MethodName := ⟨RX8, "region", "(III)V"⟩
abbrev cX8_load : ByteArray := prog_10_method_7_code
def yX8_load : MethodName := ⟨RX8, "load", "(II)V"⟩
abbrev cX8_policy : ByteArray := prog_10_method_8_code
def yX8_policy : MethodName := ⟨RX8, "policy", "(II)V"⟩
abbrev cX8_window : ByteArray := prog_10_method_9_code
def yX8_window : MethodName := ⟨RX8, "window", "(II)I"⟩
abbrev cX8_channel : ByteArray := prog_10_method_10_code
def yX8_channel : MethodName := ⟨RX8, "channel", "(IIII)V"⟩
abbrev cX8_boot : ByteArray := prog_10_method_11_code
def yX8_boot : MethodName := ⟨RX8, "boot", "()I"⟩
abbrev cX8_clear : ByteArray := prog_10_method_12_code
def yX8_clear : MethodName := ⟨RX8, "clear", "(I)V"⟩
abbrev cX8_reset : ByteArray := prog_10_method_13_code
def yX8_reset : MethodName := ⟨RX8, "reset", "()V"⟩
abbrev cX8_fault : ByteArray := prog_10_method_14_code
def yX8_fault : MethodName := ⟨RX8, "fault", "(II)V"⟩
abbrev cX8_below : ByteArray := prog_10_method_15_code
def yX8_below : MethodName := ⟨RX8, "below", "(II)Z"⟩
abbrev cX8_sum : ByteArray := prog_10_method_16_code
def yX8_sum : MethodName := ⟨RX8, "sum", "(IIIZ)I"⟩
abbrev cX8_goes : ByteArray := prog_10_method_17_code
def yX8_goes : MethodName := ⟨RX8, "goes", "(III)Z"⟩
abbrev cX8_put : ByteArray := prog_10_method_18_code
def yX8_put : MethodName := ⟨RX8, "put", "(III)V"⟩
abbrev cX8_known : ByteArray := prog_10_method_19_code
def yX8_known : MethodName := ⟨RX8, "known", "(I)Z"⟩
abbrev cX8_at : ByteArray := prog_10_method_20_code
def yX8_at : MethodName := ⟨RX8, "at", "(I)I"⟩
abbrev cX8_inside : ByteArray := prog_10_method_21_code
def yX8_inside : MethodName := ⟨RX8, "inside", "(II)Z"⟩
abbrev cX8_loads : ByteArray := prog_10_method_22_code
def yX8_loads : MethodName := ⟨RX8, "loads", "(III)I"⟩
abbrev cX8_stores : ByteArray := prog_10_method_23_code
def yX8_stores : MethodName := ⟨RX8, "stores", "(III)I"⟩
abbrev cX8_calls : ByteArray := prog_10_method_24_code
def yX8_calls : MethodName := ⟨RX8, "calls", "(I)I"⟩
abbrev cX8_perform : ByteArray := prog_10_method_25_code
def yX8_perform : MethodName := ⟨RX8, "perform", "(II)I"⟩
abbrev cX8_step : ByteArray := prog_10_method_26_code
def yX8_step : MethodName := ⟨RX8, "step", "(I)V"⟩
abbrev cX8_run : ByteArray := prog_10_method_27_code
def yX8_run : MethodName := ⟨RX8, "run", "(I)I"⟩
abbrev cX8_quote : ByteArray := prog_10_method_28_code
def yX8_quote : MethodName := ⟨RX8, "quote", "(I)I"⟩
abbrev cX8_register : ByteArray := prog_10_method_29_code
def yX8_register : MethodName := ⟨RX8, "register", "(II)I"⟩
abbrev cX8_memory : ByteArray := prog_10_method_30_code
def yX8_memory : MethodName := ⟨RX8, "memory", "(I)I"⟩
abbrev cX8_told : ByteArray := prog_10_method_31_code
def yX8_told : MethodName := ⟨RX8, "told", "(II)I"⟩
abbrev cX8_object : ByteArray := prog_10_method_32_code
def yX8_object : MethodName := ⟨RX8, "object", "(II)I"⟩
abbrev cX8_count : ByteArray := prog_10_method_33_code
def yX8_count : MethodName := ⟨RX8, "count", "(I)I"⟩
abbrev cX0_init : ByteArray := prog_2_method_1_code
def yX0_init : MethodName := ⟨RX0, "<init>", "()V"⟩
abbrev cX0_clear : ByteArray := prog_2_method_2_code
def yX0_clear : MethodName := ⟨RX0, "clear", "()V"⟩
abbrev cX0_write : ByteArray := prog_2_method_3_code
def yX0_write : MethodName := ⟨RX0, "write", "(II)V"⟩
abbrev cX0_valueOrZero : ByteArray := prog_2_method_4_code
def yX0_valueOrZero : MethodName := ⟨RX0, "valueOrZero", "()I"⟩
abbrev cX0_hourOrNone : ByteArray := prog_2_method_5_code
def yX0_hourOrNone : MethodName := ⟨RX0, "hourOrNone", "()I"⟩
abbrev cX0_age : ByteArray := prog_2_method_6_code
def yX0_age : MethodName := ⟨RX0, "age", "(I)I"⟩
abbrev cX1_o : ByteArray := prog_3_method_2_code
def yX1_o : MethodName := ⟨RX1, "o", "(I)I"⟩
abbrev cX1_f : ByteArray := prog_3_method_3_code
def yX1_f : MethodName := ⟨RX1, "f", "(I)I"⟩
abbrev cX1_g : ByteArray := prog_3_method_4_code
def yX1_g : MethodName := ⟨RX1, "g", "(I)I"⟩
abbrev cX1_rd : ByteArray := prog_3_method_5_code
def yX1_rd : MethodName := ⟨RX1, "rd", "(I)I"⟩
abbrev cX1_rs1 : ByteArray := prog_3_method_6_code
def yX1_rs1 : MethodName := ⟨RX1, "rs1", "(I)I"⟩
abbrev cX1_rs2 : ByteArray := prog_3_method_7_code
def yX1_rs2 : MethodName := ⟨RX1, "rs2", "(I)I"⟩
abbrev cX1_immediateI : ByteArray := prog_3_method_8_code
def yX1_immediateI : MethodName := ⟨RX1, "immediateI", "(I)I"⟩
abbrev cX1_immediateU : ByteArray := prog_3_method_9_code
def yX1_immediateU : MethodName := ⟨RX1, "immediateU", "(I)I"⟩
abbrev cX1_immediateS : ByteArray := prog_3_method_10_code
def yX1_immediateS : MethodName := ⟨RX1, "immediateS", "(I)I"⟩
abbrev cX1_immediateB : ByteArray := prog_3_method_11_code
def yX1_immediateB : MethodName := ⟨RX1, "immediateB", "(I)I"⟩
abbrev cX1_immediateJ : ByteArray := prog_3_method_12_code
def yX1_immediateJ : MethodName := ⟨RX1, "immediateJ", "(I)I"⟩
abbrev cX1_isKnown : ByteArray := prog_3_method_13_code
def yX1_isKnown : MethodName := ⟨RX1, "isKnown", "(I)Z"⟩
abbrev cX1_isKnownWithImmediate : ByteArray := prog_3_method_14_code
def yX1_isKnownWithImmediate : MethodName := ⟨RX1, "isKnownWithImmediate", "(II)Z"⟩
abbrev cX1_isKnownWithRegister : ByteArray := prog_3_method_15_code
def yX1_isKnownWithRegister : MethodName := ⟨RX1, "isKnownWithRegister", "(II)Z"⟩
abbrev cX2_init : ByteArray := prog_4_method_1_code
def yX2_init : MethodName := ⟨RX2, "<init>", "(I)V"⟩
abbrev cX2_overlapsAnother : ByteArray := prog_4_method_2_code
def yX2_overlapsAnother : MethodName := ⟨RX2, "overlapsAnother", "(III)Z"⟩
abbrev cX2_start : ByteArray := prog_4_method_3_code
def yX2_start : MethodName := ⟨RX2, "start", "()I"⟩
abbrev cX2_step : ByteArray := prog_4_method_4_code
def yX2_step : MethodName := ⟨RX2, "step", "(LSeparationMonitor$Partition;)V"⟩
abbrev cX2_fetchFault : ByteArray := prog_4_method_5_code
def yX2_fetchFault : MethodName := ⟨RX2, "fetchFault", "(LSeparationMonitor$Partition;)I"⟩
abbrev cX2_execute : ByteArray := prog_4_method_6_code
def yX2_execute : MethodName := ⟨RX2, "execute", "(LSeparationMonitor$Partition;I)I"⟩
abbrev cX2_jump : ByteArray := prog_4_method_7_code
def yX2_jump : MethodName := ⟨RX2, "jump", "(LSeparationMonitor$Partition;II)I"⟩
abbrev cX2_readInto : ByteArray := prog_4_method_8_code
def yX2_readInto : MethodName := ⟨RX2, "readInto", "(LSeparationMonitor$Partition;II)I"⟩
abbrev cX2_write : ByteArray := prog_4_method_9_code
def yX2_write : MethodName := ⟨RX2, "write", "(LSeparationMonitor$Partition;II)I"⟩
abbrev cX2_channelAt : ByteArray := prog_4_method_10_code
def yX2_channelAt : MethodName := ⟨RX2, "channelAt", "(I)I"⟩
abbrev cX2_isReadable : ByteArray := prog_4_method_11_code
def yX2_isReadable : MethodName := ⟨RX2, "isReadable", "(ILSeparationMonitor$Partition;)Z"⟩
abbrev cX2_serve : ByteArray := prog_4_method_12_code
def yX2_serve : MethodName := ⟨RX2, "serve", "(LSeparationMonitor$Partition;)I"⟩
abbrev cX2_tellAge : ByteArray := prog_4_method_13_code
def yX2_tellAge : MethodName := ⟨RX2, "tellAge", "(LSeparationMonitor$Partition;I)I"⟩
abbrev cX2_seal : ByteArray := prog_4_method_14_code
def yX2_seal : MethodName := ⟨RX2, "seal", "(LSeparationMonitor$Partition;II)I"⟩
abbrev cX2_open : ByteArray := prog_4_method_15_code
def yX2_open : MethodName := ⟨RX2, "open", "(LSeparationMonitor$Partition;I)I"⟩
abbrev cX3_init : ByteArray := prog_5_method_1_code
def yX3_init : MethodName := ⟨RX3, "<init>", "(I)V"⟩
abbrev cX3_start : ByteArray := prog_5_method_2_code
def yX3_start : MethodName := ⟨RX3, "start", "([I)V"⟩
abbrev cX3_measured : ByteArray := prog_5_method_3_code
def yX3_measured : MethodName := ⟨RX3, "measured", "()I"⟩
abbrev cX3_clearRegisters : ByteArray := prog_5_method_4_code
def yX3_clearRegisters : MethodName := ⟨RX3, "clearRegisters", "()V"⟩
abbrev cX3_overlaps : ByteArray := prog_5_method_5_code
def yX3_overlaps : MethodName := ⟨RX3, "overlaps", "(II)Z"⟩
abbrev cX3_holds : ByteArray := prog_5_method_6_code
def yX3_holds : MethodName := ⟨RX3, "holds", "(I)Z"⟩
abbrev cX3_get : ByteArray := prog_5_method_7_code
def yX3_get : MethodName := ⟨RX3, "get", "(I)I"⟩
abbrev cX3_put : ByteArray := prog_5_method_8_code
def yX3_put : MethodName := ⟨RX3, "put", "(II)V"⟩
abbrev cX3_noteBegun : ByteArray := prog_5_method_9_code
def yX3_noteBegun : MethodName := ⟨RX3, "noteBegun", "()V"⟩
abbrev cX3_suffer : ByteArray := prog_5_method_10_code
def yX3_suffer : MethodName := ⟨RX3, "suffer", "(I[I)V"⟩
abbrev cX3_restart : ByteArray := prog_5_method_11_code
def yX3_restart : MethodName := ⟨RX3, "restart", "([I)V"⟩
abbrev cX3_sinceBooted : ByteArray := prog_5_method_12_code
def yX3_sinceBooted : MethodName := ⟨RX3, "sinceBooted", "(I)I"⟩
abbrev cX4_combined : ByteArray := prog_6_method_2_code
def yX4_combined : MethodName := ⟨RX4, "combined", "(IZII)I"⟩
abbrev cX4_branches : ByteArray := prog_6_method_3_code
def yX4_branches : MethodName := ⟨RX4, "branches", "(III)Z"⟩
abbrev cX4_lessWithoutSign : ByteArray := prog_6_method_4_code
def yX4_lessWithoutSign : MethodName := ⟨RX4, "lessWithoutSign", "(II)Z"⟩
abbrev cX5_init : ByteArray := prog_7_method_1_code
def yX5_init : MethodName := ⟨RX5, "<init>", "()V"⟩
abbrev cX6_init : ByteArray := prog_8_method_1_code
def yX6_init : MethodName := ⟨RX6, "<init>", "()V"⟩
abbrev cX6_append : ByteArray := prog_8_method_2_code
def yX6_append : MethodName := ⟨RX6, "append", "(II)V"⟩
abbrev cX6_start : ByteArray := prog_8_method_3_code
def yX6_start : MethodName := ⟨RX6, "start", "()V"⟩
abbrev cX6_partitionNow : ByteArray := prog_8_method_4_code
def yX6_partitionNow : MethodName := ⟨RX6, "partitionNow", "()I"⟩
abbrev cX6_endsWindow : ByteArray := prog_8_method_5_code
def yX6_endsWindow : MethodName := ⟨RX6, "endsWindow", "()Z"⟩
abbrev cX6_begin : ByteArray := prog_8_method_6_code
def yX6_begin : MethodName := ⟨RX6, "begin", "(I)V"⟩
abbrev cL_cell : ByteArray := method_2_code
def yL_cell : MethodName := ⟨RL, "cell", "([II)I"⟩
abbrev cL_region : ByteArray := method_3_code
def yL_region : MethodName := ⟨RL, "region", "(LSeparationMonitor;III)I"⟩
abbrev cL_load : ByteArray := method_4_code
def yL_load : MethodName := ⟨RL, "load", "(LSeparationMonitor;II)I"⟩
abbrev cL_policy : ByteArray := method_5_code
def yL_policy : MethodName := ⟨RL, "policy", "(LSeparationMonitor;II)I"⟩
abbrev cL_window : ByteArray := method_6_code
def yL_window : MethodName := ⟨RL, "window", "(LSeparationMonitor;II[J)I"⟩
abbrev cL_channel : ByteArray := method_7_code
def yL_channel : MethodName := ⟨RL, "channel", "(LSeparationMonitor;IIII)I"⟩
abbrev cL_boot : ByteArray := method_8_code
def yL_boot : MethodName := ⟨RL, "boot", "(LSeparationMonitor;[J)I"⟩
abbrev cL_reset : ByteArray := method_9_code
def yL_reset : MethodName := ⟨RL, "reset", "(LSeparationMonitor;)I"⟩
abbrev cL_run : ByteArray := method_10_code
def yL_run : MethodName := ⟨RL, "run", "(LSeparationMonitor;I[J)I"⟩
abbrev cL_quote : ByteArray := method_11_code
def yL_quote : MethodName := ⟨RL, "quote", "(LSeparationMonitor;I[J)I"⟩
abbrev cL_register : ByteArray := method_12_code
def yL_register : MethodName := ⟨RL, "register", "(LSeparationMonitor;II[J)I"⟩
abbrev cL_memory : ByteArray := method_13_code
def yL_memory : MethodName := ⟨RL, "memory", "(LSeparationMonitor;I[J)I"⟩
abbrev cL_told : ByteArray := method_14_code
def yL_told : MethodName := ⟨RL, "told", "(LSeparationMonitor;II[J)I"⟩
abbrev cL_object : ByteArray := method_15_code
def yL_object : MethodName := ⟨RL, "object", "(LSeparationMonitor;II[J)I"⟩
abbrev cL_law : ByteArray := code
def yL_law : MethodName := ⟨RL, "law", "([I)Z"⟩
end
section
theorem dX0_init_0 : decode cX0_init 0 = .ok (.aload_n 0, 1) := by decide +kernel
theorem dX0_init_1 : decode cX0_init 1 = .ok (.invokespecial 3, 3) := by decide +kernel
theorem dX0_init_4 : decode cX0_init 4 = .ok (.aload_n 0, 1) := by decide +kernel
theorem dX0_init_5 : decode cX0_init 5 = .ok (.iconst (-1), 1) := by decide +kernel
theorem dX0_init_6 : decode cX0_init 6 = .ok (.putfield 9, 3) := by decide +kernel
theorem dX0_init_9 : decode cX0_init 9 = .ok (.aload_n 0, 1) := by decide +kernel
theorem dX0_init_10 : decode cX0_init 10 = .ok (.iconst 0, 1) := by decide +kernel
theorem dX0_init_11 : decode cX0_init 11 = .ok (.putfield 15, 3) := by decide +kernel
theorem dX0_init_14 : decode cX0_init 14 = .ok (.aload_n 0, 1) := by decide +kernel
theorem dX0_init_15 : decode cX0_init 15 = .ok (.iconst 1, 1) := by decide +kernel
theorem dX0_init_16 : decode cX0_init 16 = .ok (.putfield 18, 3) := by decide +kernel
theorem dX0_init_19 : decode cX0_init 19 = .ok (.aload_n 0, 1) := by decide +kernel
theorem dX0_init_20 : decode cX0_init 20 = .ok (.iconst 0, 1) := by decide +kernel
theorem dX0_init_21 : decode cX0_init 21 = .ok (.putfield 21, 3) := by decide +kernel
theorem dX0_init_24 : decode cX0_init 24 = .ok (.aload_n 0, 1) := by decide +kernel
theorem dX0_init_25 : decode cX0_init 25 = .ok (.iconst 0, 1) := by decide +kernel
theorem dX0_init_26 : decode cX0_init 26 = .ok (.putfield 25, 3) := by decide +kernel
theorem dX0_init_29 : decode cX0_init 29 = .ok (.aload_n 0, 1) := by decide +kernel
theorem dX0_init_30 : decode cX0_init 30 = .ok (.iconst 0, 1) := by decide +kernel
theorem dX0_init_31 : decode cX0_init 31 = .ok (.putfield 28, 3) := by decide +kernel
theorem dX0_init_34 : decode cX0_init 34 = .ok (.return_, 1) := by decide +kernel
theorem dX0_clear_0 : decode cX0_clear 0 = .ok (.aload_n 0, 1) := by decide +kernel
theorem dX0_clear_1 : decode cX0_clear 1 = .ok (.iconst 0, 1) := by decide +kernel
theorem dX0_clear_2 : decode cX0_clear 2 = .ok (.putfield 21, 3) := by decide +kernel
theorem dX0_clear_5 : decode cX0_clear 5 = .ok (.return_, 1) := by decide +kernel
theorem dX0_write_0 : decode cX0_write 0 = .ok (.aload_n 0, 1) := by decide +kernel
theorem dX0_write_1 : decode cX0_write 1 = .ok (.iconst 1, 1) := by decide +kernel
theorem dX0_write_2 : decode cX0_write 2 = .ok (.putfield 21, 3) := by decide +kernel
theorem dX0_write_5 : decode cX0_write 5 = .ok (.aload_n 0, 1) := by decide +kernel
theorem dX0_write_6 : decode cX0_write 6 = .ok (.iload_n 1, 1) := by decide +kernel
theorem dX0_write_7 : decode cX0_write 7 = .ok (.putfield 25, 3) := by decide +kernel
theorem dX0_write_10 : decode cX0_write 10 = .ok (.aload_n 0, 1) := by decide +kernel
theorem dX0_write_11 : decode cX0_write 11 = .ok (.iload_n 2, 1) := by decide +kernel
theorem dX0_write_12 : decode cX0_write 12 = .ok (.putfield 28, 3) := by decide +kernel
theorem dX0_write_15 : decode cX0_write 15 = .ok (.return_, 1) := by decide +kernel
theorem dX0_valueOrZero_0 : decode cX0_valueOrZero 0 = .ok (.aload_n 0, 1) := by decide +kernel
theorem dX0_valueOrZero_1 : decode cX0_valueOrZero 1 = .ok (.getfield 21, 3) := by decide +kernel
theorem dX0_valueOrZero_4 : decode cX0_valueOrZero 4 = .ok (.ifCond .eq 10, 3) := by decide +kernel
theorem dX0_valueOrZero_7 : decode cX0_valueOrZero 7 = .ok (.aload_n 0, 1) := by decide +kernel
theorem dX0_valueOrZero_8 : decode cX0_valueOrZero 8 = .ok (.getfield 25, 3) := by decide +kernel
theorem dX0_valueOrZero_11 : decode cX0_valueOrZero 11 = .ok (.goto 4, 3) := by decide +kernel
theorem dX0_valueOrZero_14 : decode cX0_valueOrZero 14 = .ok (.iconst 0, 1) := by decide +kernel
theorem dX0_valueOrZero_15 : decode cX0_valueOrZero 15 = .ok (.ireturn, 1) := by decide +kernel
theorem dX0_hourOrNone_0 : decode cX0_hourOrNone 0 = .ok (.aload_n 0, 1) := by decide +kernel
theorem dX0_hourOrNone_1 : decode cX0_hourOrNone 1 = .ok (.getfield 21, 3) := by decide +kernel
theorem dX0_hourOrNone_4 : decode cX0_hourOrNone 4 = .ok (.ifCond .eq 10, 3) := by decide +kernel
theorem dX0_hourOrNone_7 : decode cX0_hourOrNone 7 = .ok (.aload_n 0, 1) := by decide +kernel
theorem dX0_hourOrNone_8 : decode cX0_hourOrNone 8 = .ok (.getfield 28, 3) := by decide +kernel
theorem dX0_hourOrNone_11 : decode cX0_hourOrNone 11 = .ok (.goto 4, 3) := by decide +kernel
theorem dX0_hourOrNone_14 : decode cX0_hourOrNone 14 = .ok (.iconst (-1), 1) := by decide +kernel
theorem dX0_hourOrNone_15 : decode cX0_hourOrNone 15 = .ok (.ireturn, 1) := by decide +kernel
theorem dX0_age_0 : decode cX0_age 0 = .ok (.aload_n 0, 1) := by decide +kernel
theorem dX0_age_1 : decode cX0_age 1 = .ok (.getfield 21, 3) := by decide +kernel
theorem dX0_age_4 : decode cX0_age 4 = .ok (.ifCond .eq 25, 3) := by decide +kernel
theorem dX0_age_7 : decode cX0_age 7 = .ok (.iload_n 1, 1) := by decide +kernel
theorem dX0_age_8 : decode cX0_age 8 = .ok (.aload_n 0, 1) := by decide +kernel
theorem dX0_age_9 : decode cX0_age 9 = .ok (.getfield 28, 3) := by decide +kernel
theorem dX0_age_12 : decode cX0_age 12 = .ok (.isub, 1) := by decide +kernel
theorem dX0_age_13 : decode cX0_age 13 = .ok (.aload_n 0, 1) := by decide +kernel
theorem dX0_age_14 : decode cX0_age 14 = .ok (.getfield 18, 3) := by decide +kernel
theorem dX0_age_17 : decode cX0_age 17 = .ok (.if_icmp .gt 12, 3) := by decide +kernel
theorem dX0_age_20 : decode cX0_age 20 = .ok (.iload_n 1, 1) := by decide +kernel
theorem dX0_age_21 : decode cX0_age 21 = .ok (.aload_n 0, 1) := by decide +kernel
theorem dX0_age_22 : decode cX0_age 22 = .ok (.getfield 28, 3) := by decide +kernel
theorem dX0_age_25 : decode cX0_age 25 = .ok (.isub, 1) := by decide +kernel
theorem dX0_age_26 : decode cX0_age 26 = .ok (.goto 4, 3) := by decide +kernel
theorem dX0_age_29 : decode cX0_age 29 = .ok (.iconst (-1), 1) := by decide +kernel
theorem dX0_age_30 : decode cX0_age 30 = .ok (.ireturn, 1) := by decide +kernel
theorem dX1_o_0 : decode cX1_o 0 = .ok (.iload_n 0, 1) := by decide +kernel
theorem dX1_o_1 : decode cX1_o 1 = .ok (.bipush 127, 2) := by decide +kernel
theorem dX1_o_3 : decode cX1_o 3 = .ok (.iand, 1) := by decide +kernel
theorem dX1_o_4 : decode cX1_o 4 = .ok (.ireturn, 1) := by decide +kernel
theorem dX1_f_0 : decode cX1_f 0 = .ok (.iload_n 0, 1) := by decide +kernel
theorem dX1_f_1 : decode cX1_f 1 = .ok (.bipush 12, 2) := by decide +kernel
theorem dX1_f_3 : decode cX1_f 3 = .ok (.iushr, 1) := by decide +kernel
theorem dX1_f_4 : decode cX1_f 4 = .ok (.bipush 7, 2) := by decide +kernel
theorem dX1_f_6 : decode cX1_f 6 = .ok (.iand, 1) := by decide +kernel
theorem dX1_f_7 : decode cX1_f 7 = .ok (.ireturn, 1) := by decide +kernel
theorem dX1_g_0 : decode cX1_g 0 = .ok (.iload_n 0, 1) := by decide +kernel
theorem dX1_g_1 : decode cX1_g 1 = .ok (.bipush 25, 2) := by decide +kernel
theorem dX1_g_3 : decode cX1_g 3 = .ok (.iushr, 1) := by decide +kernel
theorem dX1_g_4 : decode cX1_g 4 = .ok (.ireturn, 1) := by decide +kernel
theorem dX1_rd_0 : decode cX1_rd 0 = .ok (.iload_n 0, 1) := by decide +kernel
theorem dX1_rd_1 : decode cX1_rd 1 = .ok (.bipush 7, 2) := by decide +kernel
theorem dX1_rd_3 : decode cX1_rd 3 = .ok (.iushr, 1) := by decide +kernel
theorem dX1_rd_4 : decode cX1_rd 4 = .ok (.bipush 31, 2) := by decide +kernel
theorem dX1_rd_6 : decode cX1_rd 6 = .ok (.iand, 1) := by decide +kernel
theorem dX1_rd_7 : decode cX1_rd 7 = .ok (.ireturn, 1) := by decide +kernel
theorem dX1_rs1_0 : decode cX1_rs1 0 = .ok (.iload_n 0, 1) := by decide +kernel
theorem dX1_rs1_1 : decode cX1_rs1 1 = .ok (.bipush 15, 2) := by decide +kernel
theorem dX1_rs1_3 : decode cX1_rs1 3 = .ok (.iushr, 1) := by decide +kernel
theorem dX1_rs1_4 : decode cX1_rs1 4 = .ok (.bipush 31, 2) := by decide +kernel
theorem dX1_rs1_6 : decode cX1_rs1 6 = .ok (.iand, 1) := by decide +kernel
theorem dX1_rs1_7 : decode cX1_rs1 7 = .ok (.ireturn, 1) := by decide +kernel
theorem dX1_rs2_0 : decode cX1_rs2 0 = .ok (.iload_n 0, 1) := by decide +kernel
theorem dX1_rs2_1 : decode cX1_rs2 1 = .ok (.bipush 20, 2) := by decide +kernel
theorem dX1_rs2_3 : decode cX1_rs2 3 = .ok (.iushr, 1) := by decide +kernel
theorem dX1_rs2_4 : decode cX1_rs2 4 = .ok (.bipush 31, 2) := by decide +kernel
theorem dX1_rs2_6 : decode cX1_rs2 6 = .ok (.iand, 1) := by decide +kernel
theorem dX1_rs2_7 : decode cX1_rs2 7 = .ok (.ireturn, 1) := by decide +kernel
theorem dX1_immediateI_0 : decode cX1_immediateI 0 = .ok (.iload_n 0, 1) := by decide +kernel
theorem dX1_immediateI_1 : decode cX1_immediateI 1 = .ok (.bipush 20, 2) := by decide +kernel
theorem dX1_immediateI_3 : decode cX1_immediateI 3 = .ok (.ishr, 1) := by decide +kernel
theorem dX1_immediateI_4 : decode cX1_immediateI 4 = .ok (.ireturn, 1) := by decide +kernel
theorem dX1_immediateU_0 : decode cX1_immediateU 0 = .ok (.iload_n 0, 1) := by decide +kernel
theorem dX1_immediateU_1 : decode cX1_immediateU 1 = .ok (.sipush (-4096), 3) := by decide +kernel
theorem dX1_immediateU_4 : decode cX1_immediateU 4 = .ok (.iand, 1) := by decide +kernel
theorem dX1_immediateU_5 : decode cX1_immediateU 5 = .ok (.ireturn, 1) := by decide +kernel
theorem dX1_immediateS_0 : decode cX1_immediateS 0 = .ok (.iload_n 0, 1) := by decide +kernel
theorem dX1_immediateS_1 : decode cX1_immediateS 1 = .ok (.bipush 25, 2) := by decide +kernel
theorem dX1_immediateS_3 : decode cX1_immediateS 3 = .ok (.ishr, 1) := by decide +kernel
theorem dX1_immediateS_4 : decode cX1_immediateS 4 = .ok (.iconst 5, 1) := by decide +kernel
theorem dX1_immediateS_5 : decode cX1_immediateS 5 = .ok (.ishl, 1) := by decide +kernel
theorem dX1_immediateS_6 : decode cX1_immediateS 6 = .ok (.iload_n 0, 1) := by decide +kernel
theorem dX1_immediateS_7 : decode cX1_immediateS 7 = .ok (.bipush 7, 2) := by decide +kernel
theorem dX1_immediateS_9 : decode cX1_immediateS 9 = .ok (.iushr, 1) := by decide +kernel
theorem dX1_immediateS_10 : decode cX1_immediateS 10 = .ok (.bipush 31, 2) := by decide +kernel
theorem dX1_immediateS_12 : decode cX1_immediateS 12 = .ok (.iand, 1) := by decide +kernel
theorem dX1_immediateS_13 : decode cX1_immediateS 13 = .ok (.ior, 1) := by decide +kernel
theorem dX1_immediateS_14 : decode cX1_immediateS 14 = .ok (.ireturn, 1) := by decide +kernel
theorem dX1_immediateB_0 : decode cX1_immediateB 0 = .ok (.iload_n 0, 1) := by decide +kernel
theorem dX1_immediateB_1 : decode cX1_immediateB 1 = .ok (.bipush 31, 2) := by decide +kernel
theorem dX1_immediateB_3 : decode cX1_immediateB 3 = .ok (.ishr, 1) := by decide +kernel
theorem dX1_immediateB_4 : decode cX1_immediateB 4 = .ok (.bipush 12, 2) := by decide +kernel
theorem dX1_immediateB_6 : decode cX1_immediateB 6 = .ok (.ishl, 1) := by decide +kernel
theorem dX1_immediateB_7 : decode cX1_immediateB 7 = .ok (.iload_n 0, 1) := by decide +kernel
theorem dX1_immediateB_8 : decode cX1_immediateB 8 = .ok (.bipush 7, 2) := by decide +kernel
theorem dX1_immediateB_10 : decode cX1_immediateB 10 = .ok (.iushr, 1) := by decide +kernel
theorem dX1_immediateB_11 : decode cX1_immediateB 11 = .ok (.iconst 1, 1) := by decide +kernel
theorem dX1_immediateB_12 : decode cX1_immediateB 12 = .ok (.iand, 1) := by decide +kernel
theorem dX1_immediateB_13 : decode cX1_immediateB 13 = .ok (.bipush 11, 2) := by decide +kernel
theorem dX1_immediateB_15 : decode cX1_immediateB 15 = .ok (.ishl, 1) := by decide +kernel
theorem dX1_immediateB_16 : decode cX1_immediateB 16 = .ok (.ior, 1) := by decide +kernel
theorem dX1_immediateB_17 : decode cX1_immediateB 17 = .ok (.iload_n 0, 1) := by decide +kernel
theorem dX1_immediateB_18 : decode cX1_immediateB 18 = .ok (.bipush 25, 2) := by decide +kernel
theorem dX1_immediateB_20 : decode cX1_immediateB 20 = .ok (.iushr, 1) := by decide +kernel
theorem dX1_immediateB_21 : decode cX1_immediateB 21 = .ok (.bipush 63, 2) := by decide +kernel
theorem dX1_immediateB_23 : decode cX1_immediateB 23 = .ok (.iand, 1) := by decide +kernel
theorem dX1_immediateB_24 : decode cX1_immediateB 24 = .ok (.iconst 5, 1) := by decide +kernel
theorem dX1_immediateB_25 : decode cX1_immediateB 25 = .ok (.ishl, 1) := by decide +kernel
theorem dX1_immediateB_26 : decode cX1_immediateB 26 = .ok (.ior, 1) := by decide +kernel
theorem dX1_immediateB_27 : decode cX1_immediateB 27 = .ok (.iload_n 0, 1) := by decide +kernel
theorem dX1_immediateB_28 : decode cX1_immediateB 28 = .ok (.bipush 8, 2) := by decide +kernel
theorem dX1_immediateB_30 : decode cX1_immediateB 30 = .ok (.iushr, 1) := by decide +kernel
theorem dX1_immediateB_31 : decode cX1_immediateB 31 = .ok (.bipush 15, 2) := by decide +kernel
theorem dX1_immediateB_33 : decode cX1_immediateB 33 = .ok (.iand, 1) := by decide +kernel
theorem dX1_immediateB_34 : decode cX1_immediateB 34 = .ok (.iconst 1, 1) := by decide +kernel
theorem dX1_immediateB_35 : decode cX1_immediateB 35 = .ok (.ishl, 1) := by decide +kernel
theorem dX1_immediateB_36 : decode cX1_immediateB 36 = .ok (.ior, 1) := by decide +kernel
theorem dX1_immediateB_37 : decode cX1_immediateB 37 = .ok (.ireturn, 1) := by decide +kernel
theorem dX1_immediateJ_0 : decode cX1_immediateJ 0 = .ok (.iload_n 0, 1) := by decide +kernel
theorem dX1_immediateJ_1 : decode cX1_immediateJ 1 = .ok (.bipush 31, 2) := by decide +kernel
theorem dX1_immediateJ_3 : decode cX1_immediateJ 3 = .ok (.ishr, 1) := by decide +kernel
theorem dX1_immediateJ_4 : decode cX1_immediateJ 4 = .ok (.bipush 20, 2) := by decide +kernel
theorem dX1_immediateJ_6 : decode cX1_immediateJ 6 = .ok (.ishl, 1) := by decide +kernel
theorem dX1_immediateJ_7 : decode cX1_immediateJ 7 = .ok (.iload_n 0, 1) := by decide +kernel
theorem dX1_immediateJ_8 : decode cX1_immediateJ 8 = .ok (.bipush 12, 2) := by decide +kernel
theorem dX1_immediateJ_10 : decode cX1_immediateJ 10 = .ok (.iushr, 1) := by decide +kernel
theorem dX1_immediateJ_11 : decode cX1_immediateJ 11 = .ok (.sipush 255, 3) := by decide +kernel
theorem dX1_immediateJ_14 : decode cX1_immediateJ 14 = .ok (.iand, 1) := by decide +kernel
theorem dX1_immediateJ_15 : decode cX1_immediateJ 15 = .ok (.bipush 12, 2) := by decide +kernel
theorem dX1_immediateJ_17 : decode cX1_immediateJ 17 = .ok (.ishl, 1) := by decide +kernel
theorem dX1_immediateJ_18 : decode cX1_immediateJ 18 = .ok (.ior, 1) := by decide +kernel
theorem dX1_immediateJ_19 : decode cX1_immediateJ 19 = .ok (.iload_n 0, 1) := by decide +kernel
theorem dX1_immediateJ_20 : decode cX1_immediateJ 20 = .ok (.bipush 20, 2) := by decide +kernel
theorem dX1_immediateJ_22 : decode cX1_immediateJ 22 = .ok (.iushr, 1) := by decide +kernel
theorem dX1_immediateJ_23 : decode cX1_immediateJ 23 = .ok (.iconst 1, 1) := by decide +kernel
theorem dX1_immediateJ_24 : decode cX1_immediateJ 24 = .ok (.iand, 1) := by decide +kernel
theorem dX1_immediateJ_25 : decode cX1_immediateJ 25 = .ok (.bipush 11, 2) := by decide +kernel
theorem dX1_immediateJ_27 : decode cX1_immediateJ 27 = .ok (.ishl, 1) := by decide +kernel
theorem dX1_immediateJ_28 : decode cX1_immediateJ 28 = .ok (.ior, 1) := by decide +kernel
theorem dX1_immediateJ_29 : decode cX1_immediateJ 29 = .ok (.iload_n 0, 1) := by decide +kernel
theorem dX1_immediateJ_30 : decode cX1_immediateJ 30 = .ok (.bipush 21, 2) := by decide +kernel
theorem dX1_immediateJ_32 : decode cX1_immediateJ 32 = .ok (.iushr, 1) := by decide +kernel
theorem dX1_immediateJ_33 : decode cX1_immediateJ 33 = .ok (.sipush 1023, 3) := by decide +kernel
theorem dX1_immediateJ_36 : decode cX1_immediateJ 36 = .ok (.iand, 1) := by decide +kernel
theorem dX1_immediateJ_37 : decode cX1_immediateJ 37 = .ok (.iconst 1, 1) := by decide +kernel
theorem dX1_immediateJ_38 : decode cX1_immediateJ 38 = .ok (.ishl, 1) := by decide +kernel
theorem dX1_immediateJ_39 : decode cX1_immediateJ 39 = .ok (.ior, 1) := by decide +kernel
theorem dX1_immediateJ_40 : decode cX1_immediateJ 40 = .ok (.ireturn, 1) := by decide +kernel
theorem dX1_isKnown_0 : decode cX1_isKnown 0 = .ok (.iload_n 0, 1) := by decide +kernel
theorem dX1_isKnown_1 : decode cX1_isKnown 1 = .ok (.invokestatic 9, 3) := by decide +kernel
theorem dX1_isKnown_4 : decode cX1_isKnown 4 = .ok (.bipush 16, 2) := by decide +kernel
theorem dX1_isKnown_6 : decode cX1_isKnown 6 = .ok (.if_icmp .ge 7, 3) := by decide +kernel
theorem dX1_isKnown_9 : decode cX1_isKnown 9 = .ok (.iconst 1, 1) := by decide +kernel
theorem dX1_isKnown_10 : decode cX1_isKnown 10 = .ok (.goto 4, 3) := by decide +kernel
theorem dX1_isKnown_13 : decode cX1_isKnown 13 = .ok (.iconst 0, 1) := by decide +kernel
theorem dX1_isKnown_14 : decode cX1_isKnown 14 = .ok (.istore_n 1, 1) := by decide +kernel
theorem dX1_isKnown_15 : decode cX1_isKnown 15 = .ok (.iload_n 0, 1) := by decide +kernel
theorem dX1_isKnown_16 : decode cX1_isKnown 16 = .ok (.invokestatic 15, 3) := by decide +kernel
theorem dX1_isKnown_19 : decode cX1_isKnown 19 = .ok (.bipush 16, 2) := by decide +kernel
theorem dX1_isKnown_21 : decode cX1_isKnown 21 = .ok (.if_icmp .ge 7, 3) := by decide +kernel
theorem dX1_isKnown_24 : decode cX1_isKnown 24 = .ok (.iconst 1, 1) := by decide +kernel
theorem dX1_isKnown_25 : decode cX1_isKnown 25 = .ok (.goto 4, 3) := by decide +kernel
theorem dX1_isKnown_28 : decode cX1_isKnown 28 = .ok (.iconst 0, 1) := by decide +kernel
theorem dX1_isKnown_29 : decode cX1_isKnown 29 = .ok (.istore_n 2, 1) := by decide +kernel
theorem dX1_isKnown_30 : decode cX1_isKnown 30 = .ok (.iload_n 0, 1) := by decide +kernel
theorem dX1_isKnown_31 : decode cX1_isKnown 31 = .ok (.invokestatic 18, 3) := by decide +kernel
theorem dX1_isKnown_34 : decode cX1_isKnown 34 = .ok (.bipush 16, 2) := by decide +kernel
theorem dX1_isKnown_36 : decode cX1_isKnown 36 = .ok (.if_icmp .ge 7, 3) := by decide +kernel
theorem dX1_isKnown_39 : decode cX1_isKnown 39 = .ok (.iconst 1, 1) := by decide +kernel
theorem dX1_isKnown_40 : decode cX1_isKnown 40 = .ok (.goto 4, 3) := by decide +kernel
theorem dX1_isKnown_43 : decode cX1_isKnown 43 = .ok (.iconst 0, 1) := by decide +kernel
theorem dX1_isKnown_44 : decode cX1_isKnown 44 = .ok (.istore_n 3, 1) := by decide +kernel
theorem dX1_isKnown_45 : decode cX1_isKnown 45 = .ok (.iload_n 0, 1) := by decide +kernel
theorem dX1_isKnown_46 : decode cX1_isKnown 46 = .ok (.invokestatic 21, 3) := by decide +kernel
theorem dX1_isKnown_49 : decode cX1_isKnown 49 = .ok (.lookupswitch 266 #[(3, 144), (19, 188), (23, 91), (35, 166), (51, 216), (55, 91), (99, 114), (103, 93), (111, 91), (115, 248)], 91) := by decide +kernel
theorem dX1_isKnown_140 : decode cX1_isKnown 140 = .ok (.iload_n 1, 1) := by decide +kernel
theorem dX1_isKnown_141 : decode cX1_isKnown 141 = .ok (.ireturn, 1) := by decide +kernel
theorem dX1_isKnown_142 : decode cX1_isKnown 142 = .ok (.iload_n 0, 1) := by decide +kernel
theorem dX1_isKnown_143 : decode cX1_isKnown 143 = .ok (.invokestatic 24, 3) := by decide +kernel
theorem dX1_isKnown_146 : decode cX1_isKnown 146 = .ok (.ifCond .ne 15, 3) := by decide +kernel
theorem dX1_isKnown_149 : decode cX1_isKnown 149 = .ok (.iload_n 1, 1) := by decide +kernel
theorem dX1_isKnown_150 : decode cX1_isKnown 150 = .ok (.ifCond .eq 11, 3) := by decide +kernel
theorem dX1_isKnown_153 : decode cX1_isKnown 153 = .ok (.iload_n 2, 1) := by decide +kernel
theorem dX1_isKnown_154 : decode cX1_isKnown 154 = .ok (.ifCond .eq 7, 3) := by decide +kernel
theorem dX1_isKnown_157 : decode cX1_isKnown 157 = .ok (.iconst 1, 1) := by decide +kernel
theorem dX1_isKnown_158 : decode cX1_isKnown 158 = .ok (.goto 4, 3) := by decide +kernel
theorem dX1_isKnown_161 : decode cX1_isKnown 161 = .ok (.iconst 0, 1) := by decide +kernel
theorem dX1_isKnown_162 : decode cX1_isKnown 162 = .ok (.ireturn, 1) := by decide +kernel
theorem dX1_isKnown_163 : decode cX1_isKnown 163 = .ok (.iload_n 0, 1) := by decide +kernel
theorem dX1_isKnown_164 : decode cX1_isKnown 164 = .ok (.invokestatic 24, 3) := by decide +kernel
theorem dX1_isKnown_167 : decode cX1_isKnown 167 = .ok (.iconst 2, 1) := by decide +kernel
theorem dX1_isKnown_168 : decode cX1_isKnown 168 = .ok (.if_icmp .eq 23, 3) := by decide +kernel
theorem dX1_isKnown_171 : decode cX1_isKnown 171 = .ok (.iload_n 0, 1) := by decide +kernel
theorem dX1_isKnown_172 : decode cX1_isKnown 172 = .ok (.invokestatic 24, 3) := by decide +kernel
theorem dX1_isKnown_175 : decode cX1_isKnown 175 = .ok (.iconst 3, 1) := by decide +kernel
theorem dX1_isKnown_176 : decode cX1_isKnown 176 = .ok (.if_icmp .eq 15, 3) := by decide +kernel
theorem dX1_isKnown_179 : decode cX1_isKnown 179 = .ok (.iload_n 2, 1) := by decide +kernel
theorem dX1_isKnown_180 : decode cX1_isKnown 180 = .ok (.ifCond .eq 11, 3) := by decide +kernel
theorem dX1_isKnown_183 : decode cX1_isKnown 183 = .ok (.iload_n 3, 1) := by decide +kernel
theorem dX1_isKnown_184 : decode cX1_isKnown 184 = .ok (.ifCond .eq 7, 3) := by decide +kernel
theorem dX1_isKnown_187 : decode cX1_isKnown 187 = .ok (.iconst 1, 1) := by decide +kernel
theorem dX1_isKnown_188 : decode cX1_isKnown 188 = .ok (.goto 4, 3) := by decide +kernel
theorem dX1_isKnown_191 : decode cX1_isKnown 191 = .ok (.iconst 0, 1) := by decide +kernel
theorem dX1_isKnown_192 : decode cX1_isKnown 192 = .ok (.ireturn, 1) := by decide +kernel
theorem dX1_isKnown_193 : decode cX1_isKnown 193 = .ok (.iload_n 0, 1) := by decide +kernel
theorem dX1_isKnown_194 : decode cX1_isKnown 194 = .ok (.invokestatic 24, 3) := by decide +kernel
theorem dX1_isKnown_197 : decode cX1_isKnown 197 = .ok (.iconst 2, 1) := by decide +kernel
theorem dX1_isKnown_198 : decode cX1_isKnown 198 = .ok (.if_icmp .ne 15, 3) := by decide +kernel
theorem dX1_isKnown_201 : decode cX1_isKnown 201 = .ok (.iload_n 1, 1) := by decide +kernel
theorem dX1_isKnown_202 : decode cX1_isKnown 202 = .ok (.ifCond .eq 11, 3) := by decide +kernel
theorem dX1_isKnown_205 : decode cX1_isKnown 205 = .ok (.iload_n 2, 1) := by decide +kernel
theorem dX1_isKnown_206 : decode cX1_isKnown 206 = .ok (.ifCond .eq 7, 3) := by decide +kernel
theorem dX1_isKnown_209 : decode cX1_isKnown 209 = .ok (.iconst 1, 1) := by decide +kernel
theorem dX1_isKnown_210 : decode cX1_isKnown 210 = .ok (.goto 4, 3) := by decide +kernel
theorem dX1_isKnown_213 : decode cX1_isKnown 213 = .ok (.iconst 0, 1) := by decide +kernel
theorem dX1_isKnown_214 : decode cX1_isKnown 214 = .ok (.ireturn, 1) := by decide +kernel
theorem dX1_isKnown_215 : decode cX1_isKnown 215 = .ok (.iload_n 0, 1) := by decide +kernel
theorem dX1_isKnown_216 : decode cX1_isKnown 216 = .ok (.invokestatic 24, 3) := by decide +kernel
theorem dX1_isKnown_219 : decode cX1_isKnown 219 = .ok (.iconst 2, 1) := by decide +kernel
theorem dX1_isKnown_220 : decode cX1_isKnown 220 = .ok (.if_icmp .ne 15, 3) := by decide +kernel
theorem dX1_isKnown_223 : decode cX1_isKnown 223 = .ok (.iload_n 2, 1) := by decide +kernel
theorem dX1_isKnown_224 : decode cX1_isKnown 224 = .ok (.ifCond .eq 11, 3) := by decide +kernel
theorem dX1_isKnown_227 : decode cX1_isKnown 227 = .ok (.iload_n 3, 1) := by decide +kernel
theorem dX1_isKnown_228 : decode cX1_isKnown 228 = .ok (.ifCond .eq 7, 3) := by decide +kernel
theorem dX1_isKnown_231 : decode cX1_isKnown 231 = .ok (.iconst 1, 1) := by decide +kernel
theorem dX1_isKnown_232 : decode cX1_isKnown 232 = .ok (.goto 4, 3) := by decide +kernel
theorem dX1_isKnown_235 : decode cX1_isKnown 235 = .ok (.iconst 0, 1) := by decide +kernel
theorem dX1_isKnown_236 : decode cX1_isKnown 236 = .ok (.ireturn, 1) := by decide +kernel
theorem dX1_isKnown_237 : decode cX1_isKnown 237 = .ok (.iload_n 1, 1) := by decide +kernel
theorem dX1_isKnown_238 : decode cX1_isKnown 238 = .ok (.ifCond .eq 25, 3) := by decide +kernel
theorem dX1_isKnown_241 : decode cX1_isKnown 241 = .ok (.iload_n 2, 1) := by decide +kernel
theorem dX1_isKnown_242 : decode cX1_isKnown 242 = .ok (.ifCond .eq 21, 3) := by decide +kernel
theorem dX1_isKnown_245 : decode cX1_isKnown 245 = .ok (.iload_n 0, 1) := by decide +kernel
theorem dX1_isKnown_246 : decode cX1_isKnown 246 = .ok (.invokestatic 24, 3) := by decide +kernel
theorem dX1_isKnown_249 : decode cX1_isKnown 249 = .ok (.iload_n 0, 1) := by decide +kernel
theorem dX1_isKnown_250 : decode cX1_isKnown 250 = .ok (.invokestatic 27, 3) := by decide +kernel
theorem dX1_isKnown_253 : decode cX1_isKnown 253 = .ok (.invokestatic 30, 3) := by decide +kernel
theorem dX1_isKnown_256 : decode cX1_isKnown 256 = .ok (.ifCond .eq 7, 3) := by decide +kernel
theorem dX1_isKnown_259 : decode cX1_isKnown 259 = .ok (.iconst 1, 1) := by decide +kernel
theorem dX1_isKnown_260 : decode cX1_isKnown 260 = .ok (.goto 4, 3) := by decide +kernel
theorem dX1_isKnown_263 : decode cX1_isKnown 263 = .ok (.iconst 0, 1) := by decide +kernel
theorem dX1_isKnown_264 : decode cX1_isKnown 264 = .ok (.ireturn, 1) := by decide +kernel
theorem dX1_isKnown_265 : decode cX1_isKnown 265 = .ok (.iload_n 1, 1) := by decide +kernel
theorem dX1_isKnown_266 : decode cX1_isKnown 266 = .ok (.ifCond .eq 29, 3) := by decide +kernel
theorem dX1_isKnown_269 : decode cX1_isKnown 269 = .ok (.iload_n 2, 1) := by decide +kernel
theorem dX1_isKnown_270 : decode cX1_isKnown 270 = .ok (.ifCond .eq 25, 3) := by decide +kernel
theorem dX1_isKnown_273 : decode cX1_isKnown 273 = .ok (.iload_n 3, 1) := by decide +kernel
theorem dX1_isKnown_274 : decode cX1_isKnown 274 = .ok (.ifCond .eq 21, 3) := by decide +kernel
theorem dX1_isKnown_277 : decode cX1_isKnown 277 = .ok (.iload_n 0, 1) := by decide +kernel
theorem dX1_isKnown_278 : decode cX1_isKnown 278 = .ok (.invokestatic 24, 3) := by decide +kernel
theorem dX1_isKnown_281 : decode cX1_isKnown 281 = .ok (.iload_n 0, 1) := by decide +kernel
theorem dX1_isKnown_282 : decode cX1_isKnown 282 = .ok (.invokestatic 27, 3) := by decide +kernel
theorem dX1_isKnown_285 : decode cX1_isKnown 285 = .ok (.invokestatic 34, 3) := by decide +kernel
theorem dX1_isKnown_288 : decode cX1_isKnown 288 = .ok (.ifCond .eq 7, 3) := by decide +kernel
theorem dX1_isKnown_291 : decode cX1_isKnown 291 = .ok (.iconst 1, 1) := by decide +kernel
theorem dX1_isKnown_292 : decode cX1_isKnown 292 = .ok (.goto 4, 3) := by decide +kernel
theorem dX1_isKnown_295 : decode cX1_isKnown 295 = .ok (.iconst 0, 1) := by decide +kernel
theorem dX1_isKnown_296 : decode cX1_isKnown 296 = .ok (.ireturn, 1) := by decide +kernel
theorem dX1_isKnown_297 : decode cX1_isKnown 297 = .ok (.iload_n 0, 1) := by decide +kernel
theorem dX1_isKnown_298 : decode cX1_isKnown 298 = .ok (.bipush 115, 2) := by decide +kernel
theorem dX1_isKnown_300 : decode cX1_isKnown 300 = .ok (.if_icmp .eq 9, 3) := by decide +kernel
theorem dX1_isKnown_303 : decode cX1_isKnown 303 = .ok (.iload_n 0, 1) := by decide +kernel
theorem dX1_isKnown_304 : decode cX1_isKnown 304 = .ok (.ldc 37, 2) := by decide +kernel
theorem dX1_isKnown_306 : decode cX1_isKnown 306 = .ok (.if_icmp .ne 7, 3) := by decide +kernel
theorem dX1_isKnown_309 : decode cX1_isKnown 309 = .ok (.iconst 1, 1) := by decide +kernel
theorem dX1_isKnown_310 : decode cX1_isKnown 310 = .ok (.goto 4, 3) := by decide +kernel
theorem dX1_isKnown_313 : decode cX1_isKnown 313 = .ok (.iconst 0, 1) := by decide +kernel
theorem dX1_isKnown_314 : decode cX1_isKnown 314 = .ok (.ireturn, 1) := by decide +kernel
theorem dX1_isKnown_315 : decode cX1_isKnown 315 = .ok (.iconst 0, 1) := by decide +kernel
theorem dX1_isKnown_316 : decode cX1_isKnown 316 = .ok (.ireturn, 1) := by decide +kernel
theorem dX1_isKnownWithImmediate_0 : decode cX1_isKnownWithImmediate 0 = .ok (.iload_n 0, 1) := by decide +kernel
theorem dX1_isKnownWithImmediate_1 : decode cX1_isKnownWithImmediate 1 = .ok (.iconst 1, 1) := by decide +kernel
theorem dX1_isKnownWithImmediate_2 : decode cX1_isKnownWithImmediate 2 = .ok (.if_icmp .ne 13, 3) := by decide +kernel
theorem dX1_isKnownWithImmediate_5 : decode cX1_isKnownWithImmediate 5 = .ok (.iload_n 1, 1) := by decide +kernel
theorem dX1_isKnownWithImmediate_6 : decode cX1_isKnownWithImmediate 6 = .ok (.ifCond .ne 7, 3) := by decide +kernel
theorem dX1_isKnownWithImmediate_9 : decode cX1_isKnownWithImmediate 9 = .ok (.iconst 1, 1) := by decide +kernel
theorem dX1_isKnownWithImmediate_10 : decode cX1_isKnownWithImmediate 10 = .ok (.goto 4, 3) := by decide +kernel
theorem dX1_isKnownWithImmediate_13 : decode cX1_isKnownWithImmediate 13 = .ok (.iconst 0, 1) := by decide +kernel
theorem dX1_isKnownWithImmediate_14 : decode cX1_isKnownWithImmediate 14 = .ok (.ireturn, 1) := by decide +kernel
theorem dX1_isKnownWithImmediate_15 : decode cX1_isKnownWithImmediate 15 = .ok (.iload_n 0, 1) := by decide +kernel
theorem dX1_isKnownWithImmediate_16 : decode cX1_isKnownWithImmediate 16 = .ok (.iconst 5, 1) := by decide +kernel
theorem dX1_isKnownWithImmediate_17 : decode cX1_isKnownWithImmediate 17 = .ok (.if_icmp .ne 13, 3) := by decide +kernel
theorem dX1_isKnownWithImmediate_20 : decode cX1_isKnownWithImmediate 20 = .ok (.iload_n 1, 1) := by decide +kernel
theorem dX1_isKnownWithImmediate_21 : decode cX1_isKnownWithImmediate 21 = .ok (.ifCond .eq 9, 3) := by decide +kernel
theorem dX1_isKnownWithImmediate_24 : decode cX1_isKnownWithImmediate 24 = .ok (.iload_n 1, 1) := by decide +kernel
theorem dX1_isKnownWithImmediate_25 : decode cX1_isKnownWithImmediate 25 = .ok (.bipush 32, 2) := by decide +kernel
theorem dX1_isKnownWithImmediate_27 : decode cX1_isKnownWithImmediate 27 = .ok (.if_icmp .ne 7, 3) := by decide +kernel
theorem dX1_isKnownWithImmediate_30 : decode cX1_isKnownWithImmediate 30 = .ok (.iconst 1, 1) := by decide +kernel
theorem dX1_isKnownWithImmediate_31 : decode cX1_isKnownWithImmediate 31 = .ok (.goto 4, 3) := by decide +kernel
theorem dX1_isKnownWithImmediate_34 : decode cX1_isKnownWithImmediate 34 = .ok (.iconst 0, 1) := by decide +kernel
theorem dX1_isKnownWithImmediate_35 : decode cX1_isKnownWithImmediate 35 = .ok (.ireturn, 1) := by decide +kernel
theorem dX1_isKnownWithRegister_0 : decode cX1_isKnownWithRegister 0 = .ok (.iload_n 1, 1) := by decide +kernel
theorem dX1_isKnownWithRegister_1 : decode cX1_isKnownWithRegister 1 = .ok (.ifCond .eq 18, 3) := by decide +kernel
theorem dX1_isKnownWithRegister_4 : decode cX1_isKnownWithRegister 4 = .ok (.iload_n 1, 1) := by decide +kernel
theorem dX1_isKnownWithRegister_5 : decode cX1_isKnownWithRegister 5 = .ok (.bipush 32, 2) := by decide +kernel
theorem dX1_isKnownWithRegister_7 : decode cX1_isKnownWithRegister 7 = .ok (.if_icmp .ne 16, 3) := by decide +kernel
theorem dX1_isKnownWithRegister_10 : decode cX1_isKnownWithRegister 10 = .ok (.iload_n 0, 1) := by decide +kernel
theorem dX1_isKnownWithRegister_11 : decode cX1_isKnownWithRegister 11 = .ok (.ifCond .eq 8, 3) := by decide +kernel
theorem dX1_isKnownWithRegister_14 : decode cX1_isKnownWithRegister 14 = .ok (.iload_n 0, 1) := by decide +kernel
theorem dX1_isKnownWithRegister_15 : decode cX1_isKnownWithRegister 15 = .ok (.iconst 5, 1) := by decide +kernel
theorem dX1_isKnownWithRegister_16 : decode cX1_isKnownWithRegister 16 = .ok (.if_icmp .ne 7, 3) := by decide +kernel
theorem dX1_isKnownWithRegister_19 : decode cX1_isKnownWithRegister 19 = .ok (.iconst 1, 1) := by decide +kernel
theorem dX1_isKnownWithRegister_20 : decode cX1_isKnownWithRegister 20 = .ok (.goto 4, 3) := by decide +kernel
theorem dX1_isKnownWithRegister_23 : decode cX1_isKnownWithRegister 23 = .ok (.iconst 0, 1) := by decide +kernel
theorem dX1_isKnownWithRegister_24 : decode cX1_isKnownWithRegister 24 = .ok (.ireturn, 1) := by decide +kernel
theorem dX4_combined_0 : decode cX4_combined 0 = .ok (.iload_n 0, 1) := by decide +kernel
theorem dX4_combined_1 : decode cX4_combined 1 = .ok (.tableswitch 117 0 6 #[43, 57, 64, 75, 89, 93, 113], 43) := by decide +kernel
theorem dX4_combined_44 : decode cX4_combined 44 = .ok (.iload_n 1, 1) := by decide +kernel
theorem dX4_combined_45 : decode cX4_combined 45 = .ok (.ifCond .eq 9, 3) := by decide +kernel
theorem dX4_combined_48 : decode cX4_combined 48 = .ok (.iload_n 2, 1) := by decide +kernel
theorem dX4_combined_49 : decode cX4_combined 49 = .ok (.iload_n 3, 1) := by decide +kernel
theorem dX4_combined_50 : decode cX4_combined 50 = .ok (.isub, 1) := by decide +kernel
theorem dX4_combined_51 : decode cX4_combined 51 = .ok (.goto 6, 3) := by decide +kernel
theorem dX4_combined_54 : decode cX4_combined 54 = .ok (.iload_n 2, 1) := by decide +kernel
theorem dX4_combined_55 : decode cX4_combined 55 = .ok (.iload_n 3, 1) := by decide +kernel
theorem dX4_combined_56 : decode cX4_combined 56 = .ok (.iadd, 1) := by decide +kernel
theorem dX4_combined_57 : decode cX4_combined 57 = .ok (.ireturn, 1) := by decide +kernel
theorem dX4_combined_58 : decode cX4_combined 58 = .ok (.iload_n 2, 1) := by decide +kernel
theorem dX4_combined_59 : decode cX4_combined 59 = .ok (.iload_n 3, 1) := by decide +kernel
theorem dX4_combined_60 : decode cX4_combined 60 = .ok (.bipush 31, 2) := by decide +kernel
theorem dX4_combined_62 : decode cX4_combined 62 = .ok (.iand, 1) := by decide +kernel
theorem dX4_combined_63 : decode cX4_combined 63 = .ok (.ishl, 1) := by decide +kernel
theorem dX4_combined_64 : decode cX4_combined 64 = .ok (.ireturn, 1) := by decide +kernel
theorem dX4_combined_65 : decode cX4_combined 65 = .ok (.iload_n 2, 1) := by decide +kernel
theorem dX4_combined_66 : decode cX4_combined 66 = .ok (.iload_n 3, 1) := by decide +kernel
theorem dX4_combined_67 : decode cX4_combined 67 = .ok (.if_icmp .ge 7, 3) := by decide +kernel
theorem dX4_combined_70 : decode cX4_combined 70 = .ok (.iconst 1, 1) := by decide +kernel
theorem dX4_combined_71 : decode cX4_combined 71 = .ok (.goto 4, 3) := by decide +kernel
theorem dX4_combined_74 : decode cX4_combined 74 = .ok (.iconst 0, 1) := by decide +kernel
theorem dX4_combined_75 : decode cX4_combined 75 = .ok (.ireturn, 1) := by decide +kernel
theorem dX4_combined_76 : decode cX4_combined 76 = .ok (.iload_n 2, 1) := by decide +kernel
theorem dX4_combined_77 : decode cX4_combined 77 = .ok (.iload_n 3, 1) := by decide +kernel
theorem dX4_combined_78 : decode cX4_combined 78 = .ok (.invokestatic 7, 3) := by decide +kernel
theorem dX4_combined_81 : decode cX4_combined 81 = .ok (.ifCond .eq 7, 3) := by decide +kernel
theorem dX4_combined_84 : decode cX4_combined 84 = .ok (.iconst 1, 1) := by decide +kernel
theorem dX4_combined_85 : decode cX4_combined 85 = .ok (.goto 4, 3) := by decide +kernel
theorem dX4_combined_88 : decode cX4_combined 88 = .ok (.iconst 0, 1) := by decide +kernel
theorem dX4_combined_89 : decode cX4_combined 89 = .ok (.ireturn, 1) := by decide +kernel
theorem dX4_combined_90 : decode cX4_combined 90 = .ok (.iload_n 2, 1) := by decide +kernel
theorem dX4_combined_91 : decode cX4_combined 91 = .ok (.iload_n 3, 1) := by decide +kernel
theorem dX4_combined_92 : decode cX4_combined 92 = .ok (.ixor, 1) := by decide +kernel
theorem dX4_combined_93 : decode cX4_combined 93 = .ok (.ireturn, 1) := by decide +kernel
theorem dX4_combined_94 : decode cX4_combined 94 = .ok (.iload_n 1, 1) := by decide +kernel
theorem dX4_combined_95 : decode cX4_combined 95 = .ok (.ifCond .eq 12, 3) := by decide +kernel
theorem dX4_combined_98 : decode cX4_combined 98 = .ok (.iload_n 2, 1) := by decide +kernel
theorem dX4_combined_99 : decode cX4_combined 99 = .ok (.iload_n 3, 1) := by decide +kernel
theorem dX4_combined_100 : decode cX4_combined 100 = .ok (.bipush 31, 2) := by decide +kernel
theorem dX4_combined_102 : decode cX4_combined 102 = .ok (.iand, 1) := by decide +kernel
theorem dX4_combined_103 : decode cX4_combined 103 = .ok (.ishr, 1) := by decide +kernel
theorem dX4_combined_104 : decode cX4_combined 104 = .ok (.goto 9, 3) := by decide +kernel
theorem dX4_combined_107 : decode cX4_combined 107 = .ok (.iload_n 2, 1) := by decide +kernel
theorem dX4_combined_108 : decode cX4_combined 108 = .ok (.iload_n 3, 1) := by decide +kernel
theorem dX4_combined_109 : decode cX4_combined 109 = .ok (.bipush 31, 2) := by decide +kernel
theorem dX4_combined_111 : decode cX4_combined 111 = .ok (.iand, 1) := by decide +kernel
theorem dX4_combined_112 : decode cX4_combined 112 = .ok (.iushr, 1) := by decide +kernel
theorem dX4_combined_113 : decode cX4_combined 113 = .ok (.ireturn, 1) := by decide +kernel
theorem dX4_combined_114 : decode cX4_combined 114 = .ok (.iload_n 2, 1) := by decide +kernel
theorem dX4_combined_115 : decode cX4_combined 115 = .ok (.iload_n 3, 1) := by decide +kernel
theorem dX4_combined_116 : decode cX4_combined 116 = .ok (.ior, 1) := by decide +kernel
theorem dX4_combined_117 : decode cX4_combined 117 = .ok (.ireturn, 1) := by decide +kernel
theorem dX4_combined_118 : decode cX4_combined 118 = .ok (.iload_n 2, 1) := by decide +kernel
theorem dX4_combined_119 : decode cX4_combined 119 = .ok (.iload_n 3, 1) := by decide +kernel
theorem dX4_combined_120 : decode cX4_combined 120 = .ok (.iand, 1) := by decide +kernel
theorem dX4_combined_121 : decode cX4_combined 121 = .ok (.ireturn, 1) := by decide +kernel
theorem dX4_branches_0 : decode cX4_branches 0 = .ok (.iload_n 0, 1) := by decide +kernel
theorem dX4_branches_1 : decode cX4_branches 1 = .ok (.tableswitch 93 0 6 #[43, 54, 93, 93, 65, 76, 87], 43) := by decide +kernel
theorem dX4_branches_44 : decode cX4_branches 44 = .ok (.iload_n 1, 1) := by decide +kernel
theorem dX4_branches_45 : decode cX4_branches 45 = .ok (.iload_n 2, 1) := by decide +kernel
theorem dX4_branches_46 : decode cX4_branches 46 = .ok (.if_icmp .ne 7, 3) := by decide +kernel
theorem dX4_branches_49 : decode cX4_branches 49 = .ok (.iconst 1, 1) := by decide +kernel
theorem dX4_branches_50 : decode cX4_branches 50 = .ok (.goto 4, 3) := by decide +kernel
theorem dX4_branches_53 : decode cX4_branches 53 = .ok (.iconst 0, 1) := by decide +kernel
theorem dX4_branches_54 : decode cX4_branches 54 = .ok (.ireturn, 1) := by decide +kernel
theorem dX4_branches_55 : decode cX4_branches 55 = .ok (.iload_n 1, 1) := by decide +kernel
theorem dX4_branches_56 : decode cX4_branches 56 = .ok (.iload_n 2, 1) := by decide +kernel
theorem dX4_branches_57 : decode cX4_branches 57 = .ok (.if_icmp .eq 7, 3) := by decide +kernel
theorem dX4_branches_60 : decode cX4_branches 60 = .ok (.iconst 1, 1) := by decide +kernel
theorem dX4_branches_61 : decode cX4_branches 61 = .ok (.goto 4, 3) := by decide +kernel
theorem dX4_branches_64 : decode cX4_branches 64 = .ok (.iconst 0, 1) := by decide +kernel
theorem dX4_branches_65 : decode cX4_branches 65 = .ok (.ireturn, 1) := by decide +kernel
theorem dX4_branches_66 : decode cX4_branches 66 = .ok (.iload_n 1, 1) := by decide +kernel
theorem dX4_branches_67 : decode cX4_branches 67 = .ok (.iload_n 2, 1) := by decide +kernel
theorem dX4_branches_68 : decode cX4_branches 68 = .ok (.if_icmp .ge 7, 3) := by decide +kernel
theorem dX4_branches_71 : decode cX4_branches 71 = .ok (.iconst 1, 1) := by decide +kernel
theorem dX4_branches_72 : decode cX4_branches 72 = .ok (.goto 4, 3) := by decide +kernel
theorem dX4_branches_75 : decode cX4_branches 75 = .ok (.iconst 0, 1) := by decide +kernel
theorem dX4_branches_76 : decode cX4_branches 76 = .ok (.ireturn, 1) := by decide +kernel
theorem dX4_branches_77 : decode cX4_branches 77 = .ok (.iload_n 1, 1) := by decide +kernel
theorem dX4_branches_78 : decode cX4_branches 78 = .ok (.iload_n 2, 1) := by decide +kernel
theorem dX4_branches_79 : decode cX4_branches 79 = .ok (.if_icmp .lt 7, 3) := by decide +kernel
theorem dX4_branches_82 : decode cX4_branches 82 = .ok (.iconst 1, 1) := by decide +kernel
theorem dX4_branches_83 : decode cX4_branches 83 = .ok (.goto 4, 3) := by decide +kernel
theorem dX4_branches_86 : decode cX4_branches 86 = .ok (.iconst 0, 1) := by decide +kernel
theorem dX4_branches_87 : decode cX4_branches 87 = .ok (.ireturn, 1) := by decide +kernel
theorem dX4_branches_88 : decode cX4_branches 88 = .ok (.iload_n 1, 1) := by decide +kernel
theorem dX4_branches_89 : decode cX4_branches 89 = .ok (.iload_n 2, 1) := by decide +kernel
theorem dX4_branches_90 : decode cX4_branches 90 = .ok (.invokestatic 7, 3) := by decide +kernel
theorem dX4_branches_93 : decode cX4_branches 93 = .ok (.ireturn, 1) := by decide +kernel
theorem dX4_branches_94 : decode cX4_branches 94 = .ok (.iload_n 1, 1) := by decide +kernel
theorem dX4_branches_95 : decode cX4_branches 95 = .ok (.iload_n 2, 1) := by decide +kernel
theorem dX4_branches_96 : decode cX4_branches 96 = .ok (.invokestatic 7, 3) := by decide +kernel
theorem dX4_branches_99 : decode cX4_branches 99 = .ok (.ifCond .ne 7, 3) := by decide +kernel
theorem dX4_branches_102 : decode cX4_branches 102 = .ok (.iconst 1, 1) := by decide +kernel
theorem dX4_branches_103 : decode cX4_branches 103 = .ok (.goto 4, 3) := by decide +kernel
theorem dX4_branches_106 : decode cX4_branches 106 = .ok (.iconst 0, 1) := by decide +kernel
theorem dX4_branches_107 : decode cX4_branches 107 = .ok (.ireturn, 1) := by decide +kernel
theorem dX4_lessWithoutSign_0 : decode cX4_lessWithoutSign 0 = .ok (.iload_n 0, 1) := by decide +kernel
theorem dX4_lessWithoutSign_1 : decode cX4_lessWithoutSign 1 = .ok (.ldc 13, 2) := by decide +kernel
theorem dX4_lessWithoutSign_3 : decode cX4_lessWithoutSign 3 = .ok (.ixor, 1) := by decide +kernel
theorem dX4_lessWithoutSign_4 : decode cX4_lessWithoutSign 4 = .ok (.iload_n 1, 1) := by decide +kernel
theorem dX4_lessWithoutSign_5 : decode cX4_lessWithoutSign 5 = .ok (.ldc 13, 2) := by decide +kernel
theorem dX4_lessWithoutSign_7 : decode cX4_lessWithoutSign 7 = .ok (.ixor, 1) := by decide +kernel
theorem dX4_lessWithoutSign_8 : decode cX4_lessWithoutSign 8 = .ok (.if_icmp .ge 7, 3) := by decide +kernel
theorem dX4_lessWithoutSign_11 : decode cX4_lessWithoutSign 11 = .ok (.iconst 1, 1) := by decide +kernel
theorem dX4_lessWithoutSign_12 : decode cX4_lessWithoutSign 12 = .ok (.goto 4, 3) := by decide +kernel
theorem dX4_lessWithoutSign_15 : decode cX4_lessWithoutSign 15 = .ok (.iconst 0, 1) := by decide +kernel
theorem dX4_lessWithoutSign_16 : decode cX4_lessWithoutSign 16 = .ok (.ireturn, 1) := by decide +kernel
theorem dX5_init_0 : decode cX5_init 0 = .ok (.aload_n 0, 1) := by decide +kernel
theorem dX5_init_1 : decode cX5_init 1 = .ok (.invokespecial 1, 3) := by decide +kernel
theorem dX5_init_4 : decode cX5_init 4 = .ok (.aload_n 0, 1) := by decide +kernel
theorem dX5_init_5 : decode cX5_init 5 = .ok (.iconst 0, 1) := by decide +kernel
theorem dX5_init_6 : decode cX5_init 6 = .ok (.putfield 7, 3) := by decide +kernel
theorem dX5_init_9 : decode cX5_init 9 = .ok (.aload_n 0, 1) := by decide +kernel
theorem dX5_init_10 : decode cX5_init 10 = .ok (.iconst 0, 1) := by decide +kernel
theorem dX5_init_11 : decode cX5_init 11 = .ok (.putfield 13, 3) := by decide +kernel
theorem dX5_init_14 : decode cX5_init 14 = .ok (.return_, 1) := by decide +kernel
theorem dX6_init_0 : decode cX6_init 0 = .ok (.aload_n 0, 1) := by decide +kernel
theorem dX6_init_1 : decode cX6_init 1 = .ok (.invokespecial 3, 3) := by decide +kernel
theorem dX6_init_4 : decode cX6_init 4 = .ok (.aload_n 0, 1) := by decide +kernel
theorem dX6_init_5 : decode cX6_init 5 = .ok (.bipush 6, 2) := by decide +kernel
theorem dX6_init_7 : decode cX6_init 7 = .ok (.newarray .int, 2) := by decide +kernel
theorem dX6_init_9 : decode cX6_init 9 = .ok (.putfield 9, 3) := by decide +kernel
theorem dX6_init_12 : decode cX6_init 12 = .ok (.aload_n 0, 1) := by decide +kernel
theorem dX6_init_13 : decode cX6_init 13 = .ok (.bipush 6, 2) := by decide +kernel
theorem dX6_init_15 : decode cX6_init 15 = .ok (.newarray .int, 2) := by decide +kernel
theorem dX6_init_17 : decode cX6_init 17 = .ok (.putfield 15, 3) := by decide +kernel
theorem dX6_init_20 : decode cX6_init 20 = .ok (.aload_n 0, 1) := by decide +kernel
theorem dX6_init_21 : decode cX6_init 21 = .ok (.iconst 0, 1) := by decide +kernel
theorem dX6_init_22 : decode cX6_init 22 = .ok (.putfield 18, 3) := by decide +kernel
theorem dX6_init_25 : decode cX6_init 25 = .ok (.aload_n 0, 1) := by decide +kernel
theorem dX6_init_26 : decode cX6_init 26 = .ok (.iconst 0, 1) := by decide +kernel
theorem dX6_init_27 : decode cX6_init 27 = .ok (.putfield 22, 3) := by decide +kernel
theorem dX6_init_30 : decode cX6_init 30 = .ok (.aload_n 0, 1) := by decide +kernel
theorem dX6_init_31 : decode cX6_init 31 = .ok (.iconst 0, 1) := by decide +kernel
theorem dX6_init_32 : decode cX6_init 32 = .ok (.putfield 25, 3) := by decide +kernel
theorem dX6_init_35 : decode cX6_init 35 = .ok (.aload_n 0, 1) := by decide +kernel
theorem dX6_init_36 : decode cX6_init 36 = .ok (.iconst 0, 1) := by decide +kernel
theorem dX6_init_37 : decode cX6_init 37 = .ok (.putfield 28, 3) := by decide +kernel
theorem dX6_init_40 : decode cX6_init 40 = .ok (.return_, 1) := by decide +kernel
theorem dX6_append_0 : decode cX6_append 0 = .ok (.aload_n 0, 1) := by decide +kernel
theorem dX6_append_1 : decode cX6_append 1 = .ok (.getfield 18, 3) := by decide +kernel
theorem dX6_append_4 : decode cX6_append 4 = .ok (.bipush 6, 2) := by decide +kernel
theorem dX6_append_6 : decode cX6_append 6 = .ok (.if_icmp .ge 33, 3) := by decide +kernel
theorem dX6_append_9 : decode cX6_append 9 = .ok (.aload_n 0, 1) := by decide +kernel
theorem dX6_append_10 : decode cX6_append 10 = .ok (.getfield 9, 3) := by decide +kernel
theorem dX6_append_13 : decode cX6_append 13 = .ok (.aload_n 0, 1) := by decide +kernel
theorem dX6_append_14 : decode cX6_append 14 = .ok (.getfield 18, 3) := by decide +kernel
theorem dX6_append_17 : decode cX6_append 17 = .ok (.iload_n 1, 1) := by decide +kernel
theorem dX6_append_18 : decode cX6_append 18 = .ok (.iastore, 1) := by decide +kernel
theorem dX6_append_19 : decode cX6_append 19 = .ok (.aload_n 0, 1) := by decide +kernel
theorem dX6_append_20 : decode cX6_append 20 = .ok (.getfield 15, 3) := by decide +kernel
theorem dX6_append_23 : decode cX6_append 23 = .ok (.aload_n 0, 1) := by decide +kernel
theorem dX6_append_24 : decode cX6_append 24 = .ok (.getfield 18, 3) := by decide +kernel
theorem dX6_append_27 : decode cX6_append 27 = .ok (.iload_n 2, 1) := by decide +kernel
theorem dX6_append_28 : decode cX6_append 28 = .ok (.iastore, 1) := by decide +kernel
theorem dX6_append_29 : decode cX6_append 29 = .ok (.aload_n 0, 1) := by decide +kernel
theorem dX6_append_30 : decode cX6_append 30 = .ok (.dup, 1) := by decide +kernel
theorem dX6_append_31 : decode cX6_append 31 = .ok (.getfield 18, 3) := by decide +kernel
theorem dX6_append_34 : decode cX6_append 34 = .ok (.iconst 1, 1) := by decide +kernel
theorem dX6_append_35 : decode cX6_append 35 = .ok (.iadd, 1) := by decide +kernel
theorem dX6_append_36 : decode cX6_append 36 = .ok (.putfield 18, 3) := by decide +kernel
theorem dX6_append_39 : decode cX6_append 39 = .ok (.return_, 1) := by decide +kernel
theorem dX6_start_0 : decode cX6_start 0 = .ok (.aload_n 0, 1) := by decide +kernel
theorem dX6_start_1 : decode cX6_start 1 = .ok (.iconst 0, 1) := by decide +kernel
theorem dX6_start_2 : decode cX6_start 2 = .ok (.putfield 28, 3) := by decide +kernel
theorem dX6_start_5 : decode cX6_start 5 = .ok (.aload_n 0, 1) := by decide +kernel
theorem dX6_start_6 : decode cX6_start 6 = .ok (.iconst 0, 1) := by decide +kernel
theorem dX6_start_7 : decode cX6_start 7 = .ok (.invokevirtual 31, 3) := by decide +kernel
theorem dX6_start_10 : decode cX6_start 10 = .ok (.return_, 1) := by decide +kernel
theorem dX6_partitionNow_0 : decode cX6_partitionNow 0 = .ok (.aload_n 0, 1) := by decide +kernel
theorem dX6_partitionNow_1 : decode cX6_partitionNow 1 = .ok (.getfield 9, 3) := by decide +kernel
theorem dX6_partitionNow_4 : decode cX6_partitionNow 4 = .ok (.aload_n 0, 1) := by decide +kernel
theorem dX6_partitionNow_5 : decode cX6_partitionNow 5 = .ok (.getfield 22, 3) := by decide +kernel
theorem dX6_partitionNow_8 : decode cX6_partitionNow 8 = .ok (.iaload, 1) := by decide +kernel
theorem dX6_partitionNow_9 : decode cX6_partitionNow 9 = .ok (.ireturn, 1) := by decide +kernel
theorem dX6_endsWindow_0 : decode cX6_endsWindow 0 = .ok (.aload_n 0, 1) := by decide +kernel
theorem dX6_endsWindow_1 : decode cX6_endsWindow 1 = .ok (.dup, 1) := by decide +kernel
theorem dX6_endsWindow_2 : decode cX6_endsWindow 2 = .ok (.getfield 25, 3) := by decide +kernel
theorem dX6_endsWindow_5 : decode cX6_endsWindow 5 = .ok (.iconst 1, 1) := by decide +kernel
theorem dX6_endsWindow_6 : decode cX6_endsWindow 6 = .ok (.isub, 1) := by decide +kernel
theorem dX6_endsWindow_7 : decode cX6_endsWindow 7 = .ok (.putfield 25, 3) := by decide +kernel
theorem dX6_endsWindow_10 : decode cX6_endsWindow 10 = .ok (.aload_n 0, 1) := by decide +kernel
theorem dX6_endsWindow_11 : decode cX6_endsWindow 11 = .ok (.getfield 25, 3) := by decide +kernel
theorem dX6_endsWindow_14 : decode cX6_endsWindow 14 = .ok (.ifCond .le 5, 3) := by decide +kernel
theorem dX6_endsWindow_17 : decode cX6_endsWindow 17 = .ok (.iconst 0, 1) := by decide +kernel
theorem dX6_endsWindow_18 : decode cX6_endsWindow 18 = .ok (.ireturn, 1) := by decide +kernel
theorem dX6_endsWindow_19 : decode cX6_endsWindow 19 = .ok (.aload_n 0, 1) := by decide +kernel
theorem dX6_endsWindow_20 : decode cX6_endsWindow 20 = .ok (.aload_n 0, 1) := by decide +kernel
theorem dX6_endsWindow_21 : decode cX6_endsWindow 21 = .ok (.getfield 22, 3) := by decide +kernel
theorem dX6_endsWindow_24 : decode cX6_endsWindow 24 = .ok (.iconst 1, 1) := by decide +kernel
theorem dX6_endsWindow_25 : decode cX6_endsWindow 25 = .ok (.iadd, 1) := by decide +kernel
theorem dX6_endsWindow_26 : decode cX6_endsWindow 26 = .ok (.aload_n 0, 1) := by decide +kernel
theorem dX6_endsWindow_27 : decode cX6_endsWindow 27 = .ok (.getfield 18, 3) := by decide +kernel
theorem dX6_endsWindow_30 : decode cX6_endsWindow 30 = .ok (.if_icmp .ge 12, 3) := by decide +kernel
theorem dX6_endsWindow_33 : decode cX6_endsWindow 33 = .ok (.aload_n 0, 1) := by decide +kernel
theorem dX6_endsWindow_34 : decode cX6_endsWindow 34 = .ok (.getfield 22, 3) := by decide +kernel
theorem dX6_endsWindow_37 : decode cX6_endsWindow 37 = .ok (.iconst 1, 1) := by decide +kernel
theorem dX6_endsWindow_38 : decode cX6_endsWindow 38 = .ok (.iadd, 1) := by decide +kernel
theorem dX6_endsWindow_39 : decode cX6_endsWindow 39 = .ok (.goto 4, 3) := by decide +kernel
theorem dX6_endsWindow_42 : decode cX6_endsWindow 42 = .ok (.iconst 0, 1) := by decide +kernel
theorem dX6_endsWindow_43 : decode cX6_endsWindow 43 = .ok (.invokevirtual 31, 3) := by decide +kernel
theorem dX6_endsWindow_46 : decode cX6_endsWindow 46 = .ok (.iconst 1, 1) := by decide +kernel
theorem dX6_endsWindow_47 : decode cX6_endsWindow 47 = .ok (.ireturn, 1) := by decide +kernel
theorem dX6_begin_0 : decode cX6_begin 0 = .ok (.aload_n 0, 1) := by decide +kernel
theorem dX6_begin_1 : decode cX6_begin 1 = .ok (.iload_n 1, 1) := by decide +kernel
theorem dX6_begin_2 : decode cX6_begin 2 = .ok (.putfield 22, 3) := by decide +kernel
theorem dX6_begin_5 : decode cX6_begin 5 = .ok (.aload_n 0, 1) := by decide +kernel
theorem dX6_begin_6 : decode cX6_begin 6 = .ok (.aload_n 0, 1) := by decide +kernel
theorem dX6_begin_7 : decode cX6_begin 7 = .ok (.getfield 15, 3) := by decide +kernel
theorem dX6_begin_10 : decode cX6_begin 10 = .ok (.iload_n 1, 1) := by decide +kernel
theorem dX6_begin_11 : decode cX6_begin 11 = .ok (.iaload, 1) := by decide +kernel
theorem dX6_begin_12 : decode cX6_begin 12 = .ok (.putfield 25, 3) := by decide +kernel
theorem dX6_begin_15 : decode cX6_begin 15 = .ok (.aload_n 0, 1) := by decide +kernel
theorem dX6_begin_16 : decode cX6_begin 16 = .ok (.dup, 1) := by decide +kernel
theorem dX6_begin_17 : decode cX6_begin 17 = .ok (.getfield 28, 3) := by decide +kernel
theorem dX6_begin_20 : decode cX6_begin 20 = .ok (.iconst 1, 1) := by decide +kernel
theorem dX6_begin_21 : decode cX6_begin 21 = .ok (.iadd, 1) := by decide +kernel
theorem dX6_begin_22 : decode cX6_begin 22 = .ok (.putfield 28, 3) := by decide +kernel
theorem dX6_begin_25 : decode cX6_begin 25 = .ok (.return_, 1) := by decide +kernel
end
section
theorem dX2_init_0 : decode cX2_init 0 = .ok (.aload_n 0, 1) := by decide +kernel
theorem dX2_init_1 : decode cX2_init 1 = .ok (.invokespecial 3, 3) := by decide +kernel
theorem dX2_init_4 : decode cX2_init 4 = .ok (.aload_n 0, 1) := by decide +kernel
theorem dX2_init_5 : decode cX2_init 5 = .ok (.iload_n 1, 1) := by decide +kernel
theorem dX2_init_6 : decode cX2_init 6 = .ok (.putfield 9, 3) := by decide +kernel
theorem dX2_init_9 : decode cX2_init 9 = .ok (.aload_n 0, 1) := by decide +kernel
theorem dX2_init_10 : decode cX2_init 10 = .ok (.bipush 96, 2) := by decide +kernel
theorem dX2_init_12 : decode cX2_init 12 = .ok (.newarray .int, 2) := by decide +kernel
theorem dX2_init_14 : decode cX2_init 14 = .ok (.putfield 15, 3) := by decide +kernel
theorem dX2_init_17 : decode cX2_init 17 = .ok (.aload_n 0, 1) := by decide +kernel
theorem dX2_init_18 : decode cX2_init 18 = .ok (.iconst 4, 1) := by decide +kernel
theorem dX2_init_19 : decode cX2_init 19 = .ok (.anewarray 19, 3) := by decide +kernel
theorem dX2_init_22 : decode cX2_init 22 = .ok (.putfield 21, 3) := by decide +kernel
theorem dX2_init_25 : decode cX2_init 25 = .ok (.iconst 0, 1) := by decide +kernel
theorem dX2_init_26 : decode cX2_init 26 = .ok (.istore_n 2, 1) := by decide +kernel
theorem dX2_init_27 : decode cX2_init 27 = .ok (.iload_n 2, 1) := by decide +kernel
theorem dX2_init_28 : decode cX2_init 28 = .ok (.iconst 4, 1) := by decide +kernel
theorem dX2_init_29 : decode cX2_init 29 = .ok (.if_icmp .ge 23, 3) := by decide +kernel
theorem dX2_init_32 : decode cX2_init 32 = .ok (.aload_n 0, 1) := by decide +kernel
theorem dX2_init_33 : decode cX2_init 33 = .ok (.getfield 21, 3) := by decide +kernel
theorem dX2_init_36 : decode cX2_init 36 = .ok (.iload_n 2, 1) := by decide +kernel
theorem dX2_init_37 : decode cX2_init 37 = .ok (.new 19, 3) := by decide +kernel
theorem dX2_init_40 : decode cX2_init 40 = .ok (.dup, 1) := by decide +kernel
theorem dX2_init_41 : decode cX2_init 41 = .ok (.iload_n 2, 1) := by decide +kernel
theorem dX2_init_42 : decode cX2_init 42 = .ok (.invokespecial 25, 3) := by decide +kernel
theorem dX2_init_45 : decode cX2_init 45 = .ok (.aastore, 1) := by decide +kernel
theorem dX2_init_46 : decode cX2_init 46 = .ok (.iinc 2 1, 3) := by decide +kernel
theorem dX2_init_49 : decode cX2_init 49 = .ok (.goto (-22), 3) := by decide +kernel
theorem dX2_init_52 : decode cX2_init 52 = .ok (.aload_n 0, 1) := by decide +kernel
theorem dX2_init_53 : decode cX2_init 53 = .ok (.iconst 4, 1) := by decide +kernel
theorem dX2_init_54 : decode cX2_init 54 = .ok (.anewarray 28, 3) := by decide +kernel
theorem dX2_init_57 : decode cX2_init 57 = .ok (.putfield 30, 3) := by decide +kernel
theorem dX2_init_60 : decode cX2_init 60 = .ok (.iconst 0, 1) := by decide +kernel
theorem dX2_init_61 : decode cX2_init 61 = .ok (.istore_n 2, 1) := by decide +kernel
theorem dX2_init_62 : decode cX2_init 62 = .ok (.iload_n 2, 1) := by decide +kernel
theorem dX2_init_63 : decode cX2_init 63 = .ok (.iconst 4, 1) := by decide +kernel
theorem dX2_init_64 : decode cX2_init 64 = .ok (.if_icmp .ge 22, 3) := by decide +kernel
theorem dX2_init_67 : decode cX2_init 67 = .ok (.aload_n 0, 1) := by decide +kernel
theorem dX2_init_68 : decode cX2_init 68 = .ok (.getfield 30, 3) := by decide +kernel
theorem dX2_init_71 : decode cX2_init 71 = .ok (.iload_n 2, 1) := by decide +kernel
theorem dX2_init_72 : decode cX2_init 72 = .ok (.new 28, 3) := by decide +kernel
theorem dX2_init_75 : decode cX2_init 75 = .ok (.dup, 1) := by decide +kernel
theorem dX2_init_76 : decode cX2_init 76 = .ok (.invokespecial 34, 3) := by decide +kernel
theorem dX2_init_79 : decode cX2_init 79 = .ok (.aastore, 1) := by decide +kernel
theorem dX2_init_80 : decode cX2_init 80 = .ok (.iinc 2 1, 3) := by decide +kernel
theorem dX2_init_83 : decode cX2_init 83 = .ok (.goto (-21), 3) := by decide +kernel
theorem dX2_init_86 : decode cX2_init 86 = .ok (.aload_n 0, 1) := by decide +kernel
theorem dX2_init_87 : decode cX2_init 87 = .ok (.iconst 4, 1) := by decide +kernel
theorem dX2_init_88 : decode cX2_init 88 = .ok (.anewarray 35, 3) := by decide +kernel
theorem dX2_init_91 : decode cX2_init 91 = .ok (.putfield 37, 3) := by decide +kernel
theorem dX2_init_94 : decode cX2_init 94 = .ok (.iconst 0, 1) := by decide +kernel
theorem dX2_init_95 : decode cX2_init 95 = .ok (.istore_n 2, 1) := by decide +kernel
theorem dX2_init_96 : decode cX2_init 96 = .ok (.iload_n 2, 1) := by decide +kernel
theorem dX2_init_97 : decode cX2_init 97 = .ok (.iconst 4, 1) := by decide +kernel
theorem dX2_init_98 : decode cX2_init 98 = .ok (.if_icmp .ge 22, 3) := by decide +kernel
theorem dX2_init_101 : decode cX2_init 101 = .ok (.aload_n 0, 1) := by decide +kernel
theorem dX2_init_102 : decode cX2_init 102 = .ok (.getfield 37, 3) := by decide +kernel
theorem dX2_init_105 : decode cX2_init 105 = .ok (.iload_n 2, 1) := by decide +kernel
theorem dX2_init_106 : decode cX2_init 106 = .ok (.new 35, 3) := by decide +kernel
theorem dX2_init_109 : decode cX2_init 109 = .ok (.dup, 1) := by decide +kernel
theorem dX2_init_110 : decode cX2_init 110 = .ok (.invokespecial 41, 3) := by decide +kernel
theorem dX2_init_113 : decode cX2_init 113 = .ok (.aastore, 1) := by decide +kernel
theorem dX2_init_114 : decode cX2_init 114 = .ok (.iinc 2 1, 3) := by decide +kernel
theorem dX2_init_117 : decode cX2_init 117 = .ok (.goto (-21), 3) := by decide +kernel
theorem dX2_init_120 : decode cX2_init 120 = .ok (.aload_n 0, 1) := by decide +kernel
theorem dX2_init_121 : decode cX2_init 121 = .ok (.iconst 0, 1) := by decide +kernel
theorem dX2_init_122 : decode cX2_init 122 = .ok (.putfield 42, 3) := by decide +kernel
theorem dX2_init_125 : decode cX2_init 125 = .ok (.aload_n 0, 1) := by decide +kernel
theorem dX2_init_126 : decode cX2_init 126 = .ok (.iconst 0, 1) := by decide +kernel
theorem dX2_init_127 : decode cX2_init 127 = .ok (.putfield 45, 3) := by decide +kernel
theorem dX2_init_130 : decode cX2_init 130 = .ok (.return_, 1) := by decide +kernel
theorem dX2_overlapsAnother_0 : decode cX2_overlapsAnother 0 = .ok (.iconst 0, 1) := by decide +kernel
theorem dX2_overlapsAnother_1 : decode cX2_overlapsAnother 1 = .ok (.istore 4, 2) := by decide +kernel
theorem dX2_overlapsAnother_3 : decode cX2_overlapsAnother 3 = .ok (.iload 4, 2) := by decide +kernel
theorem dX2_overlapsAnother_5 : decode cX2_overlapsAnother 5 = .ok (.iconst 4, 1) := by decide +kernel
theorem dX2_overlapsAnother_6 : decode cX2_overlapsAnother 6 = .ok (.if_icmp .ge 32, 3) := by decide +kernel
theorem dX2_overlapsAnother_9 : decode cX2_overlapsAnother 9 = .ok (.iload 4, 2) := by decide +kernel
theorem dX2_overlapsAnother_11 : decode cX2_overlapsAnother 11 = .ok (.iload_n 1, 1) := by decide +kernel
theorem dX2_overlapsAnother_12 : decode cX2_overlapsAnother 12 = .ok (.if_icmp .eq 20, 3) := by decide +kernel
theorem dX2_overlapsAnother_15 : decode cX2_overlapsAnother 15 = .ok (.aload_n 0, 1) := by decide +kernel
theorem dX2_overlapsAnother_16 : decode cX2_overlapsAnother 16 = .ok (.getfield 21, 3) := by decide +kernel
theorem dX2_overlapsAnother_19 : decode cX2_overlapsAnother 19 = .ok (.iload 4, 2) := by decide +kernel
theorem dX2_overlapsAnother_21 : decode cX2_overlapsAnother 21 = .ok (.aaload, 1) := by decide +kernel
theorem dX2_overlapsAnother_22 : decode cX2_overlapsAnother 22 = .ok (.iload_n 2, 1) := by decide +kernel
theorem dX2_overlapsAnother_23 : decode cX2_overlapsAnother 23 = .ok (.iload_n 3, 1) := by decide +kernel
theorem dX2_overlapsAnother_24 : decode cX2_overlapsAnother 24 = .ok (.invokevirtual 48, 3) := by decide +kernel
theorem dX2_overlapsAnother_27 : decode cX2_overlapsAnother 27 = .ok (.ifCond .eq 5, 3) := by decide +kernel
theorem dX2_overlapsAnother_30 : decode cX2_overlapsAnother 30 = .ok (.iconst 1, 1) := by decide +kernel
theorem dX2_overlapsAnother_31 : decode cX2_overlapsAnother 31 = .ok (.ireturn, 1) := by decide +kernel
theorem dX2_overlapsAnother_32 : decode cX2_overlapsAnother 32 = .ok (.iinc 4 1, 3) := by decide +kernel
theorem dX2_overlapsAnother_35 : decode cX2_overlapsAnother 35 = .ok (.goto (-32), 3) := by decide +kernel
theorem dX2_overlapsAnother_38 : decode cX2_overlapsAnother 38 = .ok (.iconst 0, 1) := by decide +kernel
theorem dX2_overlapsAnother_39 : decode cX2_overlapsAnother 39 = .ok (.ireturn, 1) := by decide +kernel
theorem dX2_start_0 : decode cX2_start 0 = .ok (.aload_n 0, 1) := by decide +kernel
theorem dX2_start_1 : decode cX2_start 1 = .ok (.iconst 0, 1) := by decide +kernel
theorem dX2_start_2 : decode cX2_start 2 = .ok (.putfield 42, 3) := by decide +kernel
theorem dX2_start_5 : decode cX2_start 5 = .ok (.iconst 0, 1) := by decide +kernel
theorem dX2_start_6 : decode cX2_start 6 = .ok (.istore_n 1, 1) := by decide +kernel
theorem dX2_start_7 : decode cX2_start 7 = .ok (.iload_n 1, 1) := by decide +kernel
theorem dX2_start_8 : decode cX2_start 8 = .ok (.iconst 4, 1) := by decide +kernel
theorem dX2_start_9 : decode cX2_start 9 = .ok (.if_icmp .ge 18, 3) := by decide +kernel
theorem dX2_start_12 : decode cX2_start 12 = .ok (.aload_n 0, 1) := by decide +kernel
theorem dX2_start_13 : decode cX2_start 13 = .ok (.getfield 30, 3) := by decide +kernel
theorem dX2_start_16 : decode cX2_start 16 = .ok (.iload_n 1, 1) := by decide +kernel
theorem dX2_start_17 : decode cX2_start 17 = .ok (.aaload, 1) := by decide +kernel
theorem dX2_start_18 : decode cX2_start 18 = .ok (.invokevirtual 52, 3) := by decide +kernel
theorem dX2_start_21 : decode cX2_start 21 = .ok (.iinc 1 1, 3) := by decide +kernel
theorem dX2_start_24 : decode cX2_start 24 = .ok (.goto (-17), 3) := by decide +kernel
theorem dX2_start_27 : decode cX2_start 27 = .ok (.iconst 0, 1) := by decide +kernel
theorem dX2_start_28 : decode cX2_start 28 = .ok (.istore_n 1, 1) := by decide +kernel
theorem dX2_start_29 : decode cX2_start 29 = .ok (.iconst 0, 1) := by decide +kernel
theorem dX2_start_30 : decode cX2_start 30 = .ok (.istore_n 2, 1) := by decide +kernel
theorem dX2_start_31 : decode cX2_start 31 = .ok (.iload_n 2, 1) := by decide +kernel
theorem dX2_start_32 : decode cX2_start 32 = .ok (.iconst 4, 1) := by decide +kernel
theorem dX2_start_33 : decode cX2_start 33 = .ok (.if_icmp .ge 48, 3) := by decide +kernel
theorem dX2_start_36 : decode cX2_start 36 = .ok (.aload_n 0, 1) := by decide +kernel
theorem dX2_start_37 : decode cX2_start 37 = .ok (.getfield 21, 3) := by decide +kernel
theorem dX2_start_40 : decode cX2_start 40 = .ok (.iload_n 2, 1) := by decide +kernel
theorem dX2_start_41 : decode cX2_start 41 = .ok (.aaload, 1) := by decide +kernel
theorem dX2_start_42 : decode cX2_start 42 = .ok (.aload_n 0, 1) := by decide +kernel
theorem dX2_start_43 : decode cX2_start 43 = .ok (.getfield 15, 3) := by decide +kernel
theorem dX2_start_46 : decode cX2_start 46 = .ok (.invokevirtual 55, 3) := by decide +kernel
theorem dX2_start_49 : decode cX2_start 49 = .ok (.aload_n 0, 1) := by decide +kernel
theorem dX2_start_50 : decode cX2_start 50 = .ok (.getfield 21, 3) := by decide +kernel
theorem dX2_start_53 : decode cX2_start 53 = .ok (.iload_n 2, 1) := by decide +kernel
theorem dX2_start_54 : decode cX2_start 54 = .ok (.aaload, 1) := by decide +kernel
theorem dX2_start_55 : decode cX2_start 55 = .ok (.getfield 59, 3) := by decide +kernel
theorem dX2_start_58 : decode cX2_start 58 = .ok (.ifCond .eq 17, 3) := by decide +kernel
theorem dX2_start_61 : decode cX2_start 61 = .ok (.iload_n 1, 1) := by decide +kernel
theorem dX2_start_62 : decode cX2_start 62 = .ok (.aload_n 0, 1) := by decide +kernel
theorem dX2_start_63 : decode cX2_start 63 = .ok (.getfield 21, 3) := by decide +kernel
theorem dX2_start_66 : decode cX2_start 66 = .ok (.iload_n 2, 1) := by decide +kernel
theorem dX2_start_67 : decode cX2_start 67 = .ok (.aaload, 1) := by decide +kernel
theorem dX2_start_68 : decode cX2_start 68 = .ok (.getfield 63, 3) := by decide +kernel
theorem dX2_start_71 : decode cX2_start 71 = .ok (.invokestatic 66, 3) := by decide +kernel
theorem dX2_start_74 : decode cX2_start 74 = .ok (.istore_n 1, 1) := by decide +kernel
theorem dX2_start_75 : decode cX2_start 75 = .ok (.iinc 2 1, 3) := by decide +kernel
theorem dX2_start_78 : decode cX2_start 78 = .ok (.goto (-47), 3) := by decide +kernel
theorem dX2_start_81 : decode cX2_start 81 = .ok (.iload_n 1, 1) := by decide +kernel
theorem dX2_start_82 : decode cX2_start 82 = .ok (.ireturn, 1) := by decide +kernel
theorem dX2_step_0 : decode cX2_step 0 = .ok (.aload_n 1, 1) := by decide +kernel
theorem dX2_step_1 : decode cX2_step 1 = .ok (.invokevirtual 70, 3) := by decide +kernel
theorem dX2_step_4 : decode cX2_step 4 = .ok (.aload_n 0, 1) := by decide +kernel
theorem dX2_step_5 : decode cX2_step 5 = .ok (.aload_n 1, 1) := by decide +kernel
theorem dX2_step_6 : decode cX2_step 6 = .ok (.getfield 73, 3) := by decide +kernel
theorem dX2_step_9 : decode cX2_step 9 = .ok (.iconst 4, 1) := by decide +kernel
theorem dX2_step_10 : decode cX2_step 10 = .ok (.iadd, 1) := by decide +kernel
theorem dX2_step_11 : decode cX2_step 11 = .ok (.putfield 45, 3) := by decide +kernel
theorem dX2_step_14 : decode cX2_step 14 = .ok (.aload_n 1, 1) := by decide +kernel
theorem dX2_step_15 : decode cX2_step 15 = .ok (.invokestatic 76, 3) := by decide +kernel
theorem dX2_step_18 : decode cX2_step 18 = .ok (.istore_n 2, 1) := by decide +kernel
theorem dX2_step_19 : decode cX2_step 19 = .ok (.iload_n 2, 1) := by decide +kernel
theorem dX2_step_20 : decode cX2_step 20 = .ok (.ifCond .ne 25, 3) := by decide +kernel
theorem dX2_step_23 : decode cX2_step 23 = .ok (.aload_n 0, 1) := by decide +kernel
theorem dX2_step_24 : decode cX2_step 24 = .ok (.aload_n 1, 1) := by decide +kernel
theorem dX2_step_25 : decode cX2_step 25 = .ok (.aload_n 0, 1) := by decide +kernel
theorem dX2_step_26 : decode cX2_step 26 = .ok (.getfield 15, 3) := by decide +kernel
theorem dX2_step_29 : decode cX2_step 29 = .ok (.aload_n 1, 1) := by decide +kernel
theorem dX2_step_30 : decode cX2_step 30 = .ok (.getfield 80, 3) := by decide +kernel
theorem dX2_step_33 : decode cX2_step 33 = .ok (.aload_n 1, 1) := by decide +kernel
theorem dX2_step_34 : decode cX2_step 34 = .ok (.getfield 73, 3) := by decide +kernel
theorem dX2_step_37 : decode cX2_step 37 = .ok (.iconst 4, 1) := by decide +kernel
theorem dX2_step_38 : decode cX2_step 38 = .ok (.idiv, 1) := by decide +kernel
theorem dX2_step_39 : decode cX2_step 39 = .ok (.iadd, 1) := by decide +kernel
theorem dX2_step_40 : decode cX2_step 40 = .ok (.iaload, 1) := by decide +kernel
theorem dX2_step_41 : decode cX2_step 41 = .ok (.invokevirtual 83, 3) := by decide +kernel
theorem dX2_step_44 : decode cX2_step 44 = .ok (.istore_n 2, 1) := by decide +kernel
theorem dX2_step_45 : decode cX2_step 45 = .ok (.iload_n 2, 1) := by decide +kernel
theorem dX2_step_46 : decode cX2_step 46 = .ok (.ifCond .ne 14, 3) := by decide +kernel
theorem dX2_step_49 : decode cX2_step 49 = .ok (.aload_n 1, 1) := by decide +kernel
theorem dX2_step_50 : decode cX2_step 50 = .ok (.aload_n 0, 1) := by decide +kernel
theorem dX2_step_51 : decode cX2_step 51 = .ok (.getfield 45, 3) := by decide +kernel
theorem dX2_step_54 : decode cX2_step 54 = .ok (.putfield 73, 3) := by decide +kernel
theorem dX2_step_57 : decode cX2_step 57 = .ok (.goto 12, 3) := by decide +kernel
theorem dX2_step_60 : decode cX2_step 60 = .ok (.aload_n 1, 1) := by decide +kernel
theorem dX2_step_61 : decode cX2_step 61 = .ok (.iload_n 2, 1) := by decide +kernel
theorem dX2_step_62 : decode cX2_step 62 = .ok (.aload_n 0, 1) := by decide +kernel
theorem dX2_step_63 : decode cX2_step 63 = .ok (.getfield 15, 3) := by decide +kernel
theorem dX2_step_66 : decode cX2_step 66 = .ok (.invokevirtual 87, 3) := by decide +kernel
theorem dX2_step_69 : decode cX2_step 69 = .ok (.return_, 1) := by decide +kernel
theorem dX2_fetchFault_0 : decode cX2_fetchFault 0 = .ok (.aload_n 0, 1) := by decide +kernel
theorem dX2_fetchFault_1 : decode cX2_fetchFault 1 = .ok (.getfield 73, 3) := by decide +kernel
theorem dX2_fetchFault_4 : decode cX2_fetchFault 4 = .ok (.iconst 3, 1) := by decide +kernel
theorem dX2_fetchFault_5 : decode cX2_fetchFault 5 = .ok (.iand, 1) := by decide +kernel
theorem dX2_fetchFault_6 : decode cX2_fetchFault 6 = .ok (.ifCond .eq 5, 3) := by decide +kernel
theorem dX2_fetchFault_9 : decode cX2_fetchFault 9 = .ok (.iconst 2, 1) := by decide +kernel
theorem dX2_fetchFault_10 : decode cX2_fetchFault 10 = .ok (.ireturn, 1) := by decide +kernel
theorem dX2_fetchFault_11 : decode cX2_fetchFault 11 = .ok (.aload_n 0, 1) := by decide +kernel
theorem dX2_fetchFault_12 : decode cX2_fetchFault 12 = .ok (.aload_n 0, 1) := by decide +kernel
theorem dX2_fetchFault_13 : decode cX2_fetchFault 13 = .ok (.getfield 73, 3) := by decide +kernel
theorem dX2_fetchFault_16 : decode cX2_fetchFault 16 = .ok (.invokevirtual 91, 3) := by decide +kernel
theorem dX2_fetchFault_19 : decode cX2_fetchFault 19 = .ok (.ifCond .eq 7, 3) := by decide +kernel
theorem dX2_fetchFault_22 : decode cX2_fetchFault 22 = .ok (.iconst 0, 1) := by decide +kernel
theorem dX2_fetchFault_23 : decode cX2_fetchFault 23 = .ok (.goto 4, 3) := by decide +kernel
theorem dX2_fetchFault_26 : decode cX2_fetchFault 26 = .ok (.iconst 3, 1) := by decide +kernel
theorem dX2_fetchFault_27 : decode cX2_fetchFault 27 = .ok (.ireturn, 1) := by decide +kernel
theorem dX2_execute_0 : decode cX2_execute 0 = .ok (.iload_n 2, 1) := by decide +kernel
theorem dX2_execute_1 : decode cX2_execute 1 = .ok (.invokestatic 95, 3) := by decide +kernel
theorem dX2_execute_4 : decode cX2_execute 4 = .ok (.ifCond .ne 5, 3) := by decide +kernel
theorem dX2_execute_7 : decode cX2_execute 7 = .ok (.iconst 1, 1) := by decide +kernel
theorem dX2_execute_8 : decode cX2_execute 8 = .ok (.ireturn, 1) := by decide +kernel
theorem dX2_execute_9 : decode cX2_execute 9 = .ok (.iload_n 2, 1) := by decide +kernel
theorem dX2_execute_10 : decode cX2_execute 10 = .ok (.invokestatic 100, 3) := by decide +kernel
theorem dX2_execute_13 : decode cX2_execute 13 = .ok (.istore_n 3, 1) := by decide +kernel
theorem dX2_execute_14 : decode cX2_execute 14 = .ok (.iload_n 2, 1) := by decide +kernel
theorem dX2_execute_15 : decode cX2_execute 15 = .ok (.invokestatic 104, 3) := by decide +kernel
theorem dX2_execute_18 : decode cX2_execute 18 = .ok (.istore 4, 2) := by decide +kernel
theorem dX2_execute_20 : decode cX2_execute 20 = .ok (.aload_n 1, 1) := by decide +kernel
theorem dX2_execute_21 : decode cX2_execute 21 = .ok (.iload_n 2, 1) := by decide +kernel
theorem dX2_execute_22 : decode cX2_execute 22 = .ok (.invokestatic 107, 3) := by decide +kernel
theorem dX2_execute_25 : decode cX2_execute 25 = .ok (.invokevirtual 110, 3) := by decide +kernel
theorem dX2_execute_28 : decode cX2_execute 28 = .ok (.istore 5, 2) := by decide +kernel
theorem dX2_execute_30 : decode cX2_execute 30 = .ok (.aload_n 1, 1) := by decide +kernel
theorem dX2_execute_31 : decode cX2_execute 31 = .ok (.iload_n 2, 1) := by decide +kernel
theorem dX2_execute_32 : decode cX2_execute 32 = .ok (.invokestatic 113, 3) := by decide +kernel
theorem dX2_execute_35 : decode cX2_execute 35 = .ok (.invokevirtual 110, 3) := by decide +kernel
theorem dX2_execute_38 : decode cX2_execute 38 = .ok (.istore 6, 2) := by decide +kernel
theorem dX2_execute_40 : decode cX2_execute 40 = .ok (.iload_n 2, 1) := by decide +kernel
theorem dX2_execute_41 : decode cX2_execute 41 = .ok (.invokestatic 116, 3) := by decide +kernel
theorem dX2_execute_44 : decode cX2_execute 44 = .ok (.bipush 32, 2) := by decide +kernel
theorem dX2_execute_46 : decode cX2_execute 46 = .ok (.if_icmp .ne 7, 3) := by decide +kernel
theorem dX2_execute_49 : decode cX2_execute 49 = .ok (.iconst 1, 1) := by decide +kernel
theorem dX2_execute_50 : decode cX2_execute 50 = .ok (.goto 4, 3) := by decide +kernel
theorem dX2_execute_53 : decode cX2_execute 53 = .ok (.iconst 0, 1) := by decide +kernel
theorem dX2_execute_54 : decode cX2_execute 54 = .ok (.istore 7, 2) := by decide +kernel
theorem dX2_execute_56 : decode cX2_execute 56 = .ok (.iload_n 2, 1) := by decide +kernel
theorem dX2_execute_57 : decode cX2_execute 57 = .ok (.invokestatic 119, 3) := by decide +kernel
theorem dX2_execute_60 : decode cX2_execute 60 = .ok (.lookupswitch 252 #[(3, 171), (19, 200), (23, 95), (35, 185), (51, 234), (55, 84), (99, 144), (103, 127), (111, 111)], 84) := by decide +kernel
theorem dX2_execute_144 : decode cX2_execute 144 = .ok (.aload_n 1, 1) := by decide +kernel
theorem dX2_execute_145 : decode cX2_execute 145 = .ok (.iload_n 3, 1) := by decide +kernel
theorem dX2_execute_146 : decode cX2_execute 146 = .ok (.iload_n 2, 1) := by decide +kernel
theorem dX2_execute_147 : decode cX2_execute 147 = .ok (.invokestatic 122, 3) := by decide +kernel
theorem dX2_execute_150 : decode cX2_execute 150 = .ok (.invokevirtual 125, 3) := by decide +kernel
theorem dX2_execute_153 : decode cX2_execute 153 = .ok (.iconst 0, 1) := by decide +kernel
theorem dX2_execute_154 : decode cX2_execute 154 = .ok (.ireturn, 1) := by decide +kernel
theorem dX2_execute_155 : decode cX2_execute 155 = .ok (.aload_n 1, 1) := by decide +kernel
theorem dX2_execute_156 : decode cX2_execute 156 = .ok (.iload_n 3, 1) := by decide +kernel
theorem dX2_execute_157 : decode cX2_execute 157 = .ok (.aload_n 1, 1) := by decide +kernel
theorem dX2_execute_158 : decode cX2_execute 158 = .ok (.getfield 73, 3) := by decide +kernel
theorem dX2_execute_161 : decode cX2_execute 161 = .ok (.iload_n 2, 1) := by decide +kernel
theorem dX2_execute_162 : decode cX2_execute 162 = .ok (.invokestatic 122, 3) := by decide +kernel
theorem dX2_execute_165 : decode cX2_execute 165 = .ok (.iadd, 1) := by decide +kernel
theorem dX2_execute_166 : decode cX2_execute 166 = .ok (.invokevirtual 125, 3) := by decide +kernel
theorem dX2_execute_169 : decode cX2_execute 169 = .ok (.iconst 0, 1) := by decide +kernel
theorem dX2_execute_170 : decode cX2_execute 170 = .ok (.ireturn, 1) := by decide +kernel
theorem dX2_execute_171 : decode cX2_execute 171 = .ok (.aload_n 0, 1) := by decide +kernel
theorem dX2_execute_172 : decode cX2_execute 172 = .ok (.aload_n 1, 1) := by decide +kernel
theorem dX2_execute_173 : decode cX2_execute 173 = .ok (.iload_n 3, 1) := by decide +kernel
theorem dX2_execute_174 : decode cX2_execute 174 = .ok (.aload_n 1, 1) := by decide +kernel
theorem dX2_execute_175 : decode cX2_execute 175 = .ok (.getfield 73, 3) := by decide +kernel
theorem dX2_execute_178 : decode cX2_execute 178 = .ok (.iload_n 2, 1) := by decide +kernel
theorem dX2_execute_179 : decode cX2_execute 179 = .ok (.invokestatic 129, 3) := by decide +kernel
theorem dX2_execute_182 : decode cX2_execute 182 = .ok (.iadd, 1) := by decide +kernel
theorem dX2_execute_183 : decode cX2_execute 183 = .ok (.invokevirtual 132, 3) := by decide +kernel
theorem dX2_execute_186 : decode cX2_execute 186 = .ok (.ireturn, 1) := by decide +kernel
theorem dX2_execute_187 : decode cX2_execute 187 = .ok (.aload_n 0, 1) := by decide +kernel
theorem dX2_execute_188 : decode cX2_execute 188 = .ok (.aload_n 1, 1) := by decide +kernel
theorem dX2_execute_189 : decode cX2_execute 189 = .ok (.iload_n 3, 1) := by decide +kernel
theorem dX2_execute_190 : decode cX2_execute 190 = .ok (.iload 5, 2) := by decide +kernel
theorem dX2_execute_192 : decode cX2_execute 192 = .ok (.iload_n 2, 1) := by decide +kernel
theorem dX2_execute_193 : decode cX2_execute 193 = .ok (.invokestatic 136, 3) := by decide +kernel
theorem dX2_execute_196 : decode cX2_execute 196 = .ok (.iadd, 1) := by decide +kernel
theorem dX2_execute_197 : decode cX2_execute 197 = .ok (.bipush (-2), 2) := by decide +kernel
theorem dX2_execute_199 : decode cX2_execute 199 = .ok (.iand, 1) := by decide +kernel
theorem dX2_execute_200 : decode cX2_execute 200 = .ok (.invokevirtual 132, 3) := by decide +kernel
theorem dX2_execute_203 : decode cX2_execute 203 = .ok (.ireturn, 1) := by decide +kernel
theorem dX2_execute_204 : decode cX2_execute 204 = .ok (.iload 4, 2) := by decide +kernel
theorem dX2_execute_206 : decode cX2_execute 206 = .ok (.iload 5, 2) := by decide +kernel
theorem dX2_execute_208 : decode cX2_execute 208 = .ok (.iload 6, 2) := by decide +kernel
theorem dX2_execute_210 : decode cX2_execute 210 = .ok (.invokestatic 139, 3) := by decide +kernel
theorem dX2_execute_213 : decode cX2_execute 213 = .ok (.ifCond .eq 16, 3) := by decide +kernel
theorem dX2_execute_216 : decode cX2_execute 216 = .ok (.aload_n 0, 1) := by decide +kernel
theorem dX2_execute_217 : decode cX2_execute 217 = .ok (.aload_n 1, 1) := by decide +kernel
theorem dX2_execute_218 : decode cX2_execute 218 = .ok (.getfield 73, 3) := by decide +kernel
theorem dX2_execute_221 : decode cX2_execute 221 = .ok (.iload_n 2, 1) := by decide +kernel
theorem dX2_execute_222 : decode cX2_execute 222 = .ok (.invokestatic 145, 3) := by decide +kernel
theorem dX2_execute_225 : decode cX2_execute 225 = .ok (.iadd, 1) := by decide +kernel
theorem dX2_execute_226 : decode cX2_execute 226 = .ok (.putfield 45, 3) := by decide +kernel
theorem dX2_execute_229 : decode cX2_execute 229 = .ok (.iconst 0, 1) := by decide +kernel
theorem dX2_execute_230 : decode cX2_execute 230 = .ok (.ireturn, 1) := by decide +kernel
theorem dX2_execute_231 : decode cX2_execute 231 = .ok (.aload_n 0, 1) := by decide +kernel
theorem dX2_execute_232 : decode cX2_execute 232 = .ok (.aload_n 1, 1) := by decide +kernel
theorem dX2_execute_233 : decode cX2_execute 233 = .ok (.iload_n 3, 1) := by decide +kernel
theorem dX2_execute_234 : decode cX2_execute 234 = .ok (.iload 5, 2) := by decide +kernel
theorem dX2_execute_236 : decode cX2_execute 236 = .ok (.iload_n 2, 1) := by decide +kernel
theorem dX2_execute_237 : decode cX2_execute 237 = .ok (.invokestatic 136, 3) := by decide +kernel
theorem dX2_execute_240 : decode cX2_execute 240 = .ok (.iadd, 1) := by decide +kernel
theorem dX2_execute_241 : decode cX2_execute 241 = .ok (.invokevirtual 148, 3) := by decide +kernel
theorem dX2_execute_244 : decode cX2_execute 244 = .ok (.ireturn, 1) := by decide +kernel
theorem dX2_execute_245 : decode cX2_execute 245 = .ok (.aload_n 0, 1) := by decide +kernel
theorem dX2_execute_246 : decode cX2_execute 246 = .ok (.aload_n 1, 1) := by decide +kernel
theorem dX2_execute_247 : decode cX2_execute 247 = .ok (.iload 5, 2) := by decide +kernel
theorem dX2_execute_249 : decode cX2_execute 249 = .ok (.iload_n 2, 1) := by decide +kernel
theorem dX2_execute_250 : decode cX2_execute 250 = .ok (.invokestatic 151, 3) := by decide +kernel
theorem dX2_execute_253 : decode cX2_execute 253 = .ok (.iadd, 1) := by decide +kernel
theorem dX2_execute_254 : decode cX2_execute 254 = .ok (.iload 6, 2) := by decide +kernel
theorem dX2_execute_256 : decode cX2_execute 256 = .ok (.invokevirtual 154, 3) := by decide +kernel
theorem dX2_execute_259 : decode cX2_execute 259 = .ok (.ireturn, 1) := by decide +kernel
theorem dX2_execute_260 : decode cX2_execute 260 = .ok (.aload_n 1, 1) := by decide +kernel
theorem dX2_execute_261 : decode cX2_execute 261 = .ok (.iload_n 3, 1) := by decide +kernel
theorem dX2_execute_262 : decode cX2_execute 262 = .ok (.iload 4, 2) := by decide +kernel
theorem dX2_execute_264 : decode cX2_execute 264 = .ok (.iload 7, 2) := by decide +kernel
theorem dX2_execute_266 : decode cX2_execute 266 = .ok (.ifCond .eq 13, 3) := by decide +kernel
theorem dX2_execute_269 : decode cX2_execute 269 = .ok (.iload 4, 2) := by decide +kernel
theorem dX2_execute_271 : decode cX2_execute 271 = .ok (.iconst 5, 1) := by decide +kernel
theorem dX2_execute_272 : decode cX2_execute 272 = .ok (.if_icmp .ne 7, 3) := by decide +kernel
theorem dX2_execute_275 : decode cX2_execute 275 = .ok (.iconst 1, 1) := by decide +kernel
theorem dX2_execute_276 : decode cX2_execute 276 = .ok (.goto 4, 3) := by decide +kernel
theorem dX2_execute_279 : decode cX2_execute 279 = .ok (.iconst 0, 1) := by decide +kernel
theorem dX2_execute_280 : decode cX2_execute 280 = .ok (.iload 5, 2) := by decide +kernel
theorem dX2_execute_282 : decode cX2_execute 282 = .ok (.iload_n 2, 1) := by decide +kernel
theorem dX2_execute_283 : decode cX2_execute 283 = .ok (.invokestatic 136, 3) := by decide +kernel
theorem dX2_execute_286 : decode cX2_execute 286 = .ok (.invokestatic 157, 3) := by decide +kernel
theorem dX2_execute_289 : decode cX2_execute 289 = .ok (.invokevirtual 125, 3) := by decide +kernel
theorem dX2_execute_292 : decode cX2_execute 292 = .ok (.iconst 0, 1) := by decide +kernel
theorem dX2_execute_293 : decode cX2_execute 293 = .ok (.ireturn, 1) := by decide +kernel
theorem dX2_execute_294 : decode cX2_execute 294 = .ok (.aload_n 1, 1) := by decide +kernel
theorem dX2_execute_295 : decode cX2_execute 295 = .ok (.iload_n 3, 1) := by decide +kernel
theorem dX2_execute_296 : decode cX2_execute 296 = .ok (.iload 4, 2) := by decide +kernel
theorem dX2_execute_298 : decode cX2_execute 298 = .ok (.iload 7, 2) := by decide +kernel
theorem dX2_execute_300 : decode cX2_execute 300 = .ok (.iload 5, 2) := by decide +kernel
theorem dX2_execute_302 : decode cX2_execute 302 = .ok (.iload 6, 2) := by decide +kernel
theorem dX2_execute_304 : decode cX2_execute 304 = .ok (.invokestatic 157, 3) := by decide +kernel
theorem dX2_execute_307 : decode cX2_execute 307 = .ok (.invokevirtual 125, 3) := by decide +kernel
theorem dX2_execute_310 : decode cX2_execute 310 = .ok (.iconst 0, 1) := by decide +kernel
theorem dX2_execute_311 : decode cX2_execute 311 = .ok (.ireturn, 1) := by decide +kernel
theorem dX2_execute_312 : decode cX2_execute 312 = .ok (.iload_n 2, 1) := by decide +kernel
theorem dX2_execute_313 : decode cX2_execute 313 = .ok (.bipush 115, 2) := by decide +kernel
theorem dX2_execute_315 : decode cX2_execute 315 = .ok (.if_icmp .ne 11, 3) := by decide +kernel
theorem dX2_execute_318 : decode cX2_execute 318 = .ok (.aload_n 0, 1) := by decide +kernel
theorem dX2_execute_319 : decode cX2_execute 319 = .ok (.aload_n 1, 1) := by decide +kernel
theorem dX2_execute_320 : decode cX2_execute 320 = .ok (.invokevirtual 161, 3) := by decide +kernel
theorem dX2_execute_323 : decode cX2_execute 323 = .ok (.goto 4, 3) := by decide +kernel
theorem dX2_execute_326 : decode cX2_execute 326 = .ok (.iconst 4, 1) := by decide +kernel
theorem dX2_execute_327 : decode cX2_execute 327 = .ok (.ireturn, 1) := by decide +kernel
theorem dX2_jump_0 : decode cX2_jump 0 = .ok (.aload_n 1, 1) := by decide +kernel
theorem dX2_jump_1 : decode cX2_jump 1 = .ok (.iload_n 2, 1) := by decide +kernel
theorem dX2_jump_2 : decode cX2_jump 2 = .ok (.aload_n 1, 1) := by decide +kernel
theorem dX2_jump_3 : decode cX2_jump 3 = .ok (.getfield 73, 3) := by decide +kernel
theorem dX2_jump_6 : decode cX2_jump 6 = .ok (.iconst 4, 1) := by decide +kernel
theorem dX2_jump_7 : decode cX2_jump 7 = .ok (.iadd, 1) := by decide +kernel
theorem dX2_jump_8 : decode cX2_jump 8 = .ok (.invokevirtual 125, 3) := by decide +kernel
theorem dX2_jump_11 : decode cX2_jump 11 = .ok (.aload_n 0, 1) := by decide +kernel
theorem dX2_jump_12 : decode cX2_jump 12 = .ok (.iload_n 3, 1) := by decide +kernel
theorem dX2_jump_13 : decode cX2_jump 13 = .ok (.putfield 45, 3) := by decide +kernel
theorem dX2_jump_16 : decode cX2_jump 16 = .ok (.iconst 0, 1) := by decide +kernel
theorem dX2_jump_17 : decode cX2_jump 17 = .ok (.ireturn, 1) := by decide +kernel
theorem dX2_readInto_0 : decode cX2_readInto 0 = .ok (.iload_n 3, 1) := by decide +kernel
theorem dX2_readInto_1 : decode cX2_readInto 1 = .ok (.iconst 3, 1) := by decide +kernel
theorem dX2_readInto_2 : decode cX2_readInto 2 = .ok (.iand, 1) := by decide +kernel
theorem dX2_readInto_3 : decode cX2_readInto 3 = .ok (.ifCond .eq 5, 3) := by decide +kernel
theorem dX2_readInto_6 : decode cX2_readInto 6 = .ok (.iconst 2, 1) := by decide +kernel
theorem dX2_readInto_7 : decode cX2_readInto 7 = .ok (.ireturn, 1) := by decide +kernel
theorem dX2_readInto_8 : decode cX2_readInto 8 = .ok (.aload_n 1, 1) := by decide +kernel
theorem dX2_readInto_9 : decode cX2_readInto 9 = .ok (.iload_n 3, 1) := by decide +kernel
theorem dX2_readInto_10 : decode cX2_readInto 10 = .ok (.invokevirtual 91, 3) := by decide +kernel
theorem dX2_readInto_13 : decode cX2_readInto 13 = .ok (.ifCond .eq 23, 3) := by decide +kernel
theorem dX2_readInto_16 : decode cX2_readInto 16 = .ok (.aload_n 1, 1) := by decide +kernel
theorem dX2_readInto_17 : decode cX2_readInto 17 = .ok (.iload_n 2, 1) := by decide +kernel
theorem dX2_readInto_18 : decode cX2_readInto 18 = .ok (.aload_n 0, 1) := by decide +kernel
theorem dX2_readInto_19 : decode cX2_readInto 19 = .ok (.getfield 15, 3) := by decide +kernel
theorem dX2_readInto_22 : decode cX2_readInto 22 = .ok (.aload_n 1, 1) := by decide +kernel
theorem dX2_readInto_23 : decode cX2_readInto 23 = .ok (.getfield 80, 3) := by decide +kernel
theorem dX2_readInto_26 : decode cX2_readInto 26 = .ok (.iload_n 3, 1) := by decide +kernel
theorem dX2_readInto_27 : decode cX2_readInto 27 = .ok (.iconst 4, 1) := by decide +kernel
theorem dX2_readInto_28 : decode cX2_readInto 28 = .ok (.idiv, 1) := by decide +kernel
theorem dX2_readInto_29 : decode cX2_readInto 29 = .ok (.iadd, 1) := by decide +kernel
theorem dX2_readInto_30 : decode cX2_readInto 30 = .ok (.iaload, 1) := by decide +kernel
theorem dX2_readInto_31 : decode cX2_readInto 31 = .ok (.invokevirtual 125, 3) := by decide +kernel
theorem dX2_readInto_34 : decode cX2_readInto 34 = .ok (.iconst 0, 1) := by decide +kernel
theorem dX2_readInto_35 : decode cX2_readInto 35 = .ok (.ireturn, 1) := by decide +kernel
theorem dX2_readInto_36 : decode cX2_readInto 36 = .ok (.iload_n 3, 1) := by decide +kernel
theorem dX2_readInto_37 : decode cX2_readInto 37 = .ok (.invokestatic 164, 3) := by decide +kernel
theorem dX2_readInto_40 : decode cX2_readInto 40 = .ok (.istore 4, 2) := by decide +kernel
theorem dX2_readInto_42 : decode cX2_readInto 42 = .ok (.aload_n 0, 1) := by decide +kernel
theorem dX2_readInto_43 : decode cX2_readInto 43 = .ok (.iload 4, 2) := by decide +kernel
theorem dX2_readInto_45 : decode cX2_readInto 45 = .ok (.aload_n 1, 1) := by decide +kernel
theorem dX2_readInto_46 : decode cX2_readInto 46 = .ok (.invokevirtual 167, 3) := by decide +kernel
theorem dX2_readInto_49 : decode cX2_readInto 49 = .ok (.ifCond .ne 5, 3) := by decide +kernel
theorem dX2_readInto_52 : decode cX2_readInto 52 = .ok (.iconst 3, 1) := by decide +kernel
theorem dX2_readInto_53 : decode cX2_readInto 53 = .ok (.ireturn, 1) := by decide +kernel
theorem dX2_readInto_54 : decode cX2_readInto 54 = .ok (.aload_n 1, 1) := by decide +kernel
theorem dX2_readInto_55 : decode cX2_readInto 55 = .ok (.iload_n 2, 1) := by decide +kernel
theorem dX2_readInto_56 : decode cX2_readInto 56 = .ok (.aload_n 0, 1) := by decide +kernel
theorem dX2_readInto_57 : decode cX2_readInto 57 = .ok (.getfield 30, 3) := by decide +kernel
theorem dX2_readInto_60 : decode cX2_readInto 60 = .ok (.iload 4, 2) := by decide +kernel
theorem dX2_readInto_62 : decode cX2_readInto 62 = .ok (.aaload, 1) := by decide +kernel
theorem dX2_readInto_63 : decode cX2_readInto 63 = .ok (.invokevirtual 171, 3) := by decide +kernel
theorem dX2_readInto_66 : decode cX2_readInto 66 = .ok (.invokevirtual 125, 3) := by decide +kernel
theorem dX2_readInto_69 : decode cX2_readInto 69 = .ok (.iconst 0, 1) := by decide +kernel
theorem dX2_readInto_70 : decode cX2_readInto 70 = .ok (.ireturn, 1) := by decide +kernel
theorem dX2_write_0 : decode cX2_write 0 = .ok (.iload_n 2, 1) := by decide +kernel
theorem dX2_write_1 : decode cX2_write 1 = .ok (.iconst 3, 1) := by decide +kernel
theorem dX2_write_2 : decode cX2_write 2 = .ok (.iand, 1) := by decide +kernel
theorem dX2_write_3 : decode cX2_write 3 = .ok (.ifCond .eq 5, 3) := by decide +kernel
theorem dX2_write_6 : decode cX2_write 6 = .ok (.iconst 2, 1) := by decide +kernel
theorem dX2_write_7 : decode cX2_write 7 = .ok (.ireturn, 1) := by decide +kernel
theorem dX2_write_8 : decode cX2_write 8 = .ok (.aload_n 1, 1) := by decide +kernel
theorem dX2_write_9 : decode cX2_write 9 = .ok (.iload_n 2, 1) := by decide +kernel
theorem dX2_write_10 : decode cX2_write 10 = .ok (.invokevirtual 91, 3) := by decide +kernel
theorem dX2_write_13 : decode cX2_write 13 = .ok (.ifCond .eq 19, 3) := by decide +kernel
theorem dX2_write_16 : decode cX2_write 16 = .ok (.aload_n 0, 1) := by decide +kernel
theorem dX2_write_17 : decode cX2_write 17 = .ok (.getfield 15, 3) := by decide +kernel
theorem dX2_write_20 : decode cX2_write 20 = .ok (.aload_n 1, 1) := by decide +kernel
theorem dX2_write_21 : decode cX2_write 21 = .ok (.getfield 80, 3) := by decide +kernel
theorem dX2_write_24 : decode cX2_write 24 = .ok (.iload_n 2, 1) := by decide +kernel
theorem dX2_write_25 : decode cX2_write 25 = .ok (.iconst 4, 1) := by decide +kernel
theorem dX2_write_26 : decode cX2_write 26 = .ok (.idiv, 1) := by decide +kernel
theorem dX2_write_27 : decode cX2_write 27 = .ok (.iadd, 1) := by decide +kernel
theorem dX2_write_28 : decode cX2_write 28 = .ok (.iload_n 3, 1) := by decide +kernel
theorem dX2_write_29 : decode cX2_write 29 = .ok (.iastore, 1) := by decide +kernel
theorem dX2_write_30 : decode cX2_write 30 = .ok (.iconst 0, 1) := by decide +kernel
theorem dX2_write_31 : decode cX2_write 31 = .ok (.ireturn, 1) := by decide +kernel
theorem dX2_write_32 : decode cX2_write 32 = .ok (.iload_n 2, 1) := by decide +kernel
theorem dX2_write_33 : decode cX2_write 33 = .ok (.invokestatic 164, 3) := by decide +kernel
theorem dX2_write_36 : decode cX2_write 36 = .ok (.istore 4, 2) := by decide +kernel
theorem dX2_write_38 : decode cX2_write 38 = .ok (.iload 4, 2) := by decide +kernel
theorem dX2_write_40 : decode cX2_write 40 = .ok (.invokestatic 175, 3) := by decide +kernel
theorem dX2_write_43 : decode cX2_write 43 = .ok (.ifCond .eq 20, 3) := by decide +kernel
theorem dX2_write_46 : decode cX2_write 46 = .ok (.aload_n 0, 1) := by decide +kernel
theorem dX2_write_47 : decode cX2_write 47 = .ok (.getfield 30, 3) := by decide +kernel
theorem dX2_write_50 : decode cX2_write 50 = .ok (.iload 4, 2) := by decide +kernel
theorem dX2_write_52 : decode cX2_write 52 = .ok (.aaload, 1) := by decide +kernel
theorem dX2_write_53 : decode cX2_write 53 = .ok (.getfield 178, 3) := by decide +kernel
theorem dX2_write_56 : decode cX2_write 56 = .ok (.aload_n 1, 1) := by decide +kernel
theorem dX2_write_57 : decode cX2_write 57 = .ok (.getfield 181, 3) := by decide +kernel
theorem dX2_write_60 : decode cX2_write 60 = .ok (.if_icmp .eq 5, 3) := by decide +kernel
theorem dX2_write_63 : decode cX2_write 63 = .ok (.iconst 3, 1) := by decide +kernel
theorem dX2_write_64 : decode cX2_write 64 = .ok (.ireturn, 1) := by decide +kernel
theorem dX2_write_65 : decode cX2_write 65 = .ok (.aload_n 0, 1) := by decide +kernel
theorem dX2_write_66 : decode cX2_write 66 = .ok (.getfield 30, 3) := by decide +kernel
theorem dX2_write_69 : decode cX2_write 69 = .ok (.iload 4, 2) := by decide +kernel
theorem dX2_write_71 : decode cX2_write 71 = .ok (.aaload, 1) := by decide +kernel
theorem dX2_write_72 : decode cX2_write 72 = .ok (.iload_n 3, 1) := by decide +kernel
theorem dX2_write_73 : decode cX2_write 73 = .ok (.aload_n 0, 1) := by decide +kernel
theorem dX2_write_74 : decode cX2_write 74 = .ok (.getfield 42, 3) := by decide +kernel
theorem dX2_write_77 : decode cX2_write 77 = .ok (.invokevirtual 184, 3) := by decide +kernel
theorem dX2_write_80 : decode cX2_write 80 = .ok (.iconst 0, 1) := by decide +kernel
theorem dX2_write_81 : decode cX2_write 81 = .ok (.ireturn, 1) := by decide +kernel
theorem dX2_channelAt_0 : decode cX2_channelAt 0 = .ok (.iload_n 0, 1) := by decide +kernel
theorem dX2_channelAt_1 : decode cX2_channelAt 1 = .ok (.sipush 4096, 3) := by decide +kernel
theorem dX2_channelAt_4 : decode cX2_channelAt 4 = .ok (.isub, 1) := by decide +kernel
theorem dX2_channelAt_5 : decode cX2_channelAt 5 = .ok (.iconst 4, 1) := by decide +kernel
theorem dX2_channelAt_6 : decode cX2_channelAt 6 = .ok (.idiv, 1) := by decide +kernel
theorem dX2_channelAt_7 : decode cX2_channelAt 7 = .ok (.ireturn, 1) := by decide +kernel
theorem dX2_isReadable_0 : decode cX2_isReadable 0 = .ok (.iload_n 1, 1) := by decide +kernel
theorem dX2_isReadable_1 : decode cX2_isReadable 1 = .ok (.ifCond .lt 32, 3) := by decide +kernel
theorem dX2_isReadable_4 : decode cX2_isReadable 4 = .ok (.iload_n 1, 1) := by decide +kernel
theorem dX2_isReadable_5 : decode cX2_isReadable 5 = .ok (.iconst 4, 1) := by decide +kernel
theorem dX2_isReadable_6 : decode cX2_isReadable 6 = .ok (.if_icmp .ge 27, 3) := by decide +kernel
theorem dX2_isReadable_9 : decode cX2_isReadable 9 = .ok (.aload_n 0, 1) := by decide +kernel
theorem dX2_isReadable_10 : decode cX2_isReadable 10 = .ok (.getfield 30, 3) := by decide +kernel
theorem dX2_isReadable_13 : decode cX2_isReadable 13 = .ok (.iload_n 1, 1) := by decide +kernel
theorem dX2_isReadable_14 : decode cX2_isReadable 14 = .ok (.aaload, 1) := by decide +kernel
theorem dX2_isReadable_15 : decode cX2_isReadable 15 = .ok (.getfield 186, 3) := by decide +kernel
theorem dX2_isReadable_18 : decode cX2_isReadable 18 = .ok (.aload_n 2, 1) := by decide +kernel
theorem dX2_isReadable_19 : decode cX2_isReadable 19 = .ok (.getfield 181, 3) := by decide +kernel
theorem dX2_isReadable_22 : decode cX2_isReadable 22 = .ok (.iushr, 1) := by decide +kernel
theorem dX2_isReadable_23 : decode cX2_isReadable 23 = .ok (.iconst 1, 1) := by decide +kernel
theorem dX2_isReadable_24 : decode cX2_isReadable 24 = .ok (.iand, 1) := by decide +kernel
theorem dX2_isReadable_25 : decode cX2_isReadable 25 = .ok (.iconst 1, 1) := by decide +kernel
theorem dX2_isReadable_26 : decode cX2_isReadable 26 = .ok (.if_icmp .ne 7, 3) := by decide +kernel
theorem dX2_isReadable_29 : decode cX2_isReadable 29 = .ok (.iconst 1, 1) := by decide +kernel
theorem dX2_isReadable_30 : decode cX2_isReadable 30 = .ok (.goto 4, 3) := by decide +kernel
theorem dX2_isReadable_33 : decode cX2_isReadable 33 = .ok (.iconst 0, 1) := by decide +kernel
theorem dX2_isReadable_34 : decode cX2_isReadable 34 = .ok (.ireturn, 1) := by decide +kernel
theorem dX2_serve_0 : decode cX2_serve 0 = .ok (.aload_n 1, 1) := by decide +kernel
theorem dX2_serve_1 : decode cX2_serve 1 = .ok (.bipush 15, 2) := by decide +kernel
theorem dX2_serve_3 : decode cX2_serve 3 = .ok (.invokevirtual 110, 3) := by decide +kernel
theorem dX2_serve_6 : decode cX2_serve 6 = .ok (.tableswitch 95 0 4 #[34, 41, 53, 71, 83], 34) := by decide +kernel
theorem dX2_serve_40 : decode cX2_serve 40 = .ok (.aload_n 1, 1) := by decide +kernel
theorem dX2_serve_41 : decode cX2_serve 41 = .ok (.iconst 1, 1) := by decide +kernel
theorem dX2_serve_42 : decode cX2_serve 42 = .ok (.putfield 189, 3) := by decide +kernel
theorem dX2_serve_45 : decode cX2_serve 45 = .ok (.iconst 0, 1) := by decide +kernel
theorem dX2_serve_46 : decode cX2_serve 46 = .ok (.ireturn, 1) := by decide +kernel
theorem dX2_serve_47 : decode cX2_serve 47 = .ok (.aload_n 0, 1) := by decide +kernel
theorem dX2_serve_48 : decode cX2_serve 48 = .ok (.aload_n 1, 1) := by decide +kernel
theorem dX2_serve_49 : decode cX2_serve 49 = .ok (.aload_n 1, 1) := by decide +kernel
theorem dX2_serve_50 : decode cX2_serve 50 = .ok (.bipush 10, 2) := by decide +kernel
theorem dX2_serve_52 : decode cX2_serve 52 = .ok (.invokevirtual 110, 3) := by decide +kernel
theorem dX2_serve_55 : decode cX2_serve 55 = .ok (.invokevirtual 192, 3) := by decide +kernel
theorem dX2_serve_58 : decode cX2_serve 58 = .ok (.ireturn, 1) := by decide +kernel
theorem dX2_serve_59 : decode cX2_serve 59 = .ok (.aload_n 0, 1) := by decide +kernel
theorem dX2_serve_60 : decode cX2_serve 60 = .ok (.aload_n 1, 1) := by decide +kernel
theorem dX2_serve_61 : decode cX2_serve 61 = .ok (.aload_n 1, 1) := by decide +kernel
theorem dX2_serve_62 : decode cX2_serve 62 = .ok (.bipush 10, 2) := by decide +kernel
theorem dX2_serve_64 : decode cX2_serve 64 = .ok (.invokevirtual 110, 3) := by decide +kernel
theorem dX2_serve_67 : decode cX2_serve 67 = .ok (.aload_n 1, 1) := by decide +kernel
theorem dX2_serve_68 : decode cX2_serve 68 = .ok (.bipush 11, 2) := by decide +kernel
theorem dX2_serve_70 : decode cX2_serve 70 = .ok (.invokevirtual 110, 3) := by decide +kernel
theorem dX2_serve_73 : decode cX2_serve 73 = .ok (.invokevirtual 195, 3) := by decide +kernel
theorem dX2_serve_76 : decode cX2_serve 76 = .ok (.ireturn, 1) := by decide +kernel
theorem dX2_serve_77 : decode cX2_serve 77 = .ok (.aload_n 0, 1) := by decide +kernel
theorem dX2_serve_78 : decode cX2_serve 78 = .ok (.aload_n 1, 1) := by decide +kernel
theorem dX2_serve_79 : decode cX2_serve 79 = .ok (.aload_n 1, 1) := by decide +kernel
theorem dX2_serve_80 : decode cX2_serve 80 = .ok (.bipush 10, 2) := by decide +kernel
theorem dX2_serve_82 : decode cX2_serve 82 = .ok (.invokevirtual 110, 3) := by decide +kernel
theorem dX2_serve_85 : decode cX2_serve 85 = .ok (.invokevirtual 198, 3) := by decide +kernel
theorem dX2_serve_88 : decode cX2_serve 88 = .ok (.ireturn, 1) := by decide +kernel
theorem dX2_serve_89 : decode cX2_serve 89 = .ok (.aload_n 1, 1) := by decide +kernel
theorem dX2_serve_90 : decode cX2_serve 90 = .ok (.bipush 10, 2) := by decide +kernel
theorem dX2_serve_92 : decode cX2_serve 92 = .ok (.aload_n 1, 1) := by decide +kernel
theorem dX2_serve_93 : decode cX2_serve 93 = .ok (.getfield 63, 3) := by decide +kernel
theorem dX2_serve_96 : decode cX2_serve 96 = .ok (.invokevirtual 125, 3) := by decide +kernel
theorem dX2_serve_99 : decode cX2_serve 99 = .ok (.iconst 0, 1) := by decide +kernel
theorem dX2_serve_100 : decode cX2_serve 100 = .ok (.ireturn, 1) := by decide +kernel
theorem dX2_serve_101 : decode cX2_serve 101 = .ok (.iconst 3, 1) := by decide +kernel
theorem dX2_serve_102 : decode cX2_serve 102 = .ok (.ireturn, 1) := by decide +kernel
theorem dX2_tellAge_0 : decode cX2_tellAge 0 = .ok (.aload_n 0, 1) := by decide +kernel
theorem dX2_tellAge_1 : decode cX2_tellAge 1 = .ok (.iload_n 2, 1) := by decide +kernel
theorem dX2_tellAge_2 : decode cX2_tellAge 2 = .ok (.aload_n 1, 1) := by decide +kernel
theorem dX2_tellAge_3 : decode cX2_tellAge 3 = .ok (.invokevirtual 167, 3) := by decide +kernel
theorem dX2_tellAge_6 : decode cX2_tellAge 6 = .ok (.ifCond .ne 5, 3) := by decide +kernel
theorem dX2_tellAge_9 : decode cX2_tellAge 9 = .ok (.iconst 3, 1) := by decide +kernel
theorem dX2_tellAge_10 : decode cX2_tellAge 10 = .ok (.ireturn, 1) := by decide +kernel
theorem dX2_tellAge_11 : decode cX2_tellAge 11 = .ok (.aload_n 1, 1) := by decide +kernel
theorem dX2_tellAge_12 : decode cX2_tellAge 12 = .ok (.bipush 10, 2) := by decide +kernel
theorem dX2_tellAge_14 : decode cX2_tellAge 14 = .ok (.aload_n 0, 1) := by decide +kernel
theorem dX2_tellAge_15 : decode cX2_tellAge 15 = .ok (.getfield 30, 3) := by decide +kernel
theorem dX2_tellAge_18 : decode cX2_tellAge 18 = .ok (.iload_n 2, 1) := by decide +kernel
theorem dX2_tellAge_19 : decode cX2_tellAge 19 = .ok (.aaload, 1) := by decide +kernel
theorem dX2_tellAge_20 : decode cX2_tellAge 20 = .ok (.aload_n 0, 1) := by decide +kernel
theorem dX2_tellAge_21 : decode cX2_tellAge 21 = .ok (.getfield 42, 3) := by decide +kernel
theorem dX2_tellAge_24 : decode cX2_tellAge 24 = .ok (.invokevirtual 201, 3) := by decide +kernel
theorem dX2_tellAge_27 : decode cX2_tellAge 27 = .ok (.invokevirtual 125, 3) := by decide +kernel
theorem dX2_tellAge_30 : decode cX2_tellAge 30 = .ok (.iconst 0, 1) := by decide +kernel
theorem dX2_tellAge_31 : decode cX2_tellAge 31 = .ok (.ireturn, 1) := by decide +kernel
theorem dX2_seal_0 : decode cX2_seal 0 = .ok (.iload_n 2, 1) := by decide +kernel
theorem dX2_seal_1 : decode cX2_seal 1 = .ok (.iconst 0, 1) := by decide +kernel
theorem dX2_seal_2 : decode cX2_seal 2 = .ok (.iconst 3, 1) := by decide +kernel
theorem dX2_seal_3 : decode cX2_seal 3 = .ok (.invokestatic 204, 3) := by decide +kernel
theorem dX2_seal_6 : decode cX2_seal 6 = .ok (.ifCond .ne 5, 3) := by decide +kernel
theorem dX2_seal_9 : decode cX2_seal 9 = .ok (.iconst 3, 1) := by decide +kernel
theorem dX2_seal_10 : decode cX2_seal 10 = .ok (.ireturn, 1) := by decide +kernel
theorem dX2_seal_11 : decode cX2_seal 11 = .ok (.aload_n 0, 1) := by decide +kernel
theorem dX2_seal_12 : decode cX2_seal 12 = .ok (.getfield 37, 3) := by decide +kernel
theorem dX2_seal_15 : decode cX2_seal 15 = .ok (.iload_n 2, 1) := by decide +kernel
theorem dX2_seal_16 : decode cX2_seal 16 = .ok (.aaload, 1) := by decide +kernel
theorem dX2_seal_17 : decode cX2_seal 17 = .ok (.iload_n 3, 1) := by decide +kernel
theorem dX2_seal_18 : decode cX2_seal 18 = .ok (.aload_n 0, 1) := by decide +kernel
theorem dX2_seal_19 : decode cX2_seal 19 = .ok (.getfield 9, 3) := by decide +kernel
theorem dX2_seal_22 : decode cX2_seal 22 = .ok (.aload_n 1, 1) := by decide +kernel
theorem dX2_seal_23 : decode cX2_seal 23 = .ok (.getfield 63, 3) := by decide +kernel
theorem dX2_seal_26 : decode cX2_seal 26 = .ok (.invokestatic 66, 3) := by decide +kernel
theorem dX2_seal_29 : decode cX2_seal 29 = .ok (.ixor, 1) := by decide +kernel
theorem dX2_seal_30 : decode cX2_seal 30 = .ok (.putfield 207, 3) := by decide +kernel
theorem dX2_seal_33 : decode cX2_seal 33 = .ok (.aload_n 0, 1) := by decide +kernel
theorem dX2_seal_34 : decode cX2_seal 34 = .ok (.getfield 37, 3) := by decide +kernel
theorem dX2_seal_37 : decode cX2_seal 37 = .ok (.iload_n 2, 1) := by decide +kernel
theorem dX2_seal_38 : decode cX2_seal 38 = .ok (.aaload, 1) := by decide +kernel
theorem dX2_seal_39 : decode cX2_seal 39 = .ok (.aload_n 0, 1) := by decide +kernel
theorem dX2_seal_40 : decode cX2_seal 40 = .ok (.getfield 9, 3) := by decide +kernel
theorem dX2_seal_43 : decode cX2_seal 43 = .ok (.iload_n 3, 1) := by decide +kernel
theorem dX2_seal_44 : decode cX2_seal 44 = .ok (.invokestatic 66, 3) := by decide +kernel
theorem dX2_seal_47 : decode cX2_seal 47 = .ok (.aload_n 1, 1) := by decide +kernel
theorem dX2_seal_48 : decode cX2_seal 48 = .ok (.getfield 63, 3) := by decide +kernel
theorem dX2_seal_51 : decode cX2_seal 51 = .ok (.invokestatic 66, 3) := by decide +kernel
theorem dX2_seal_54 : decode cX2_seal 54 = .ok (.putfield 210, 3) := by decide +kernel
theorem dX2_seal_57 : decode cX2_seal 57 = .ok (.iconst 0, 1) := by decide +kernel
theorem dX2_seal_58 : decode cX2_seal 58 = .ok (.ireturn, 1) := by decide +kernel
theorem dX2_open_0 : decode cX2_open 0 = .ok (.iload_n 2, 1) := by decide +kernel
theorem dX2_open_1 : decode cX2_open 1 = .ok (.iconst 0, 1) := by decide +kernel
theorem dX2_open_2 : decode cX2_open 2 = .ok (.iconst 3, 1) := by decide +kernel
theorem dX2_open_3 : decode cX2_open 3 = .ok (.invokestatic 204, 3) := by decide +kernel
theorem dX2_open_6 : decode cX2_open 6 = .ok (.ifCond .ne 5, 3) := by decide +kernel
theorem dX2_open_9 : decode cX2_open 9 = .ok (.iconst 3, 1) := by decide +kernel
theorem dX2_open_10 : decode cX2_open 10 = .ok (.ireturn, 1) := by decide +kernel
theorem dX2_open_11 : decode cX2_open 11 = .ok (.aload_n 0, 1) := by decide +kernel
theorem dX2_open_12 : decode cX2_open 12 = .ok (.getfield 37, 3) := by decide +kernel
theorem dX2_open_15 : decode cX2_open 15 = .ok (.iload_n 2, 1) := by decide +kernel
theorem dX2_open_16 : decode cX2_open 16 = .ok (.aaload, 1) := by decide +kernel
theorem dX2_open_17 : decode cX2_open 17 = .ok (.getfield 207, 3) := by decide +kernel
theorem dX2_open_20 : decode cX2_open 20 = .ok (.aload_n 0, 1) := by decide +kernel
theorem dX2_open_21 : decode cX2_open 21 = .ok (.getfield 9, 3) := by decide +kernel
theorem dX2_open_24 : decode cX2_open 24 = .ok (.aload_n 1, 1) := by decide +kernel
theorem dX2_open_25 : decode cX2_open 25 = .ok (.getfield 63, 3) := by decide +kernel
theorem dX2_open_28 : decode cX2_open 28 = .ok (.invokestatic 66, 3) := by decide +kernel
theorem dX2_open_31 : decode cX2_open 31 = .ok (.ixor, 1) := by decide +kernel
theorem dX2_open_32 : decode cX2_open 32 = .ok (.istore_n 3, 1) := by decide +kernel
theorem dX2_open_33 : decode cX2_open 33 = .ok (.aload_n 0, 1) := by decide +kernel
theorem dX2_open_34 : decode cX2_open 34 = .ok (.getfield 37, 3) := by decide +kernel
theorem dX2_open_37 : decode cX2_open 37 = .ok (.iload_n 2, 1) := by decide +kernel
theorem dX2_open_38 : decode cX2_open 38 = .ok (.aaload, 1) := by decide +kernel
theorem dX2_open_39 : decode cX2_open 39 = .ok (.getfield 210, 3) := by decide +kernel
theorem dX2_open_42 : decode cX2_open 42 = .ok (.aload_n 0, 1) := by decide +kernel
theorem dX2_open_43 : decode cX2_open 43 = .ok (.getfield 9, 3) := by decide +kernel
theorem dX2_open_46 : decode cX2_open 46 = .ok (.iload_n 3, 1) := by decide +kernel
theorem dX2_open_47 : decode cX2_open 47 = .ok (.invokestatic 66, 3) := by decide +kernel
theorem dX2_open_50 : decode cX2_open 50 = .ok (.aload_n 1, 1) := by decide +kernel
theorem dX2_open_51 : decode cX2_open 51 = .ok (.getfield 63, 3) := by decide +kernel
theorem dX2_open_54 : decode cX2_open 54 = .ok (.invokestatic 66, 3) := by decide +kernel
theorem dX2_open_57 : decode cX2_open 57 = .ok (.if_icmp .ne 7, 3) := by decide +kernel
theorem dX2_open_60 : decode cX2_open 60 = .ok (.iconst 1, 1) := by decide +kernel
theorem dX2_open_61 : decode cX2_open 61 = .ok (.goto 4, 3) := by decide +kernel
theorem dX2_open_64 : decode cX2_open 64 = .ok (.iconst 0, 1) := by decide +kernel
theorem dX2_open_65 : decode cX2_open 65 = .ok (.istore 4, 2) := by decide +kernel
theorem dX2_open_67 : decode cX2_open 67 = .ok (.iload 4, 2) := by decide +kernel
theorem dX2_open_69 : decode cX2_open 69 = .ok (.ifCond .eq 10, 3) := by decide +kernel
theorem dX2_open_72 : decode cX2_open 72 = .ok (.aload_n 1, 1) := by decide +kernel
theorem dX2_open_73 : decode cX2_open 73 = .ok (.bipush 11, 2) := by decide +kernel
theorem dX2_open_75 : decode cX2_open 75 = .ok (.iload_n 3, 1) := by decide +kernel
theorem dX2_open_76 : decode cX2_open 76 = .ok (.invokevirtual 125, 3) := by decide +kernel
theorem dX2_open_79 : decode cX2_open 79 = .ok (.aload_n 1, 1) := by decide +kernel
theorem dX2_open_80 : decode cX2_open 80 = .ok (.bipush 10, 2) := by decide +kernel
theorem dX2_open_82 : decode cX2_open 82 = .ok (.iload 4, 2) := by decide +kernel
theorem dX2_open_84 : decode cX2_open 84 = .ok (.ifCond .eq 7, 3) := by decide +kernel
theorem dX2_open_87 : decode cX2_open 87 = .ok (.iconst 1, 1) := by decide +kernel
theorem dX2_open_88 : decode cX2_open 88 = .ok (.goto 4, 3) := by decide +kernel
theorem dX2_open_91 : decode cX2_open 91 = .ok (.iconst 0, 1) := by decide +kernel
theorem dX2_open_92 : decode cX2_open 92 = .ok (.invokevirtual 125, 3) := by decide +kernel
theorem dX2_open_95 : decode cX2_open 95 = .ok (.iconst 0, 1) := by decide +kernel
theorem dX2_open_96 : decode cX2_open 96 = .ok (.ireturn, 1) := by decide +kernel
end
section
theorem dX3_init_0 : decode cX3_init 0 = .ok (.aload_n 0, 1) := by decide +kernel
theorem dX3_init_1 : decode cX3_init 1 = .ok (.invokespecial 3, 3) := by decide +kernel
theorem dX3_init_4 : decode cX3_init 4 = .ok (.aload_n 0, 1) := by decide +kernel
theorem dX3_init_5 : decode cX3_init 5 = .ok (.iload_n 1, 1) := by decide +kernel
theorem dX3_init_6 : decode cX3_init 6 = .ok (.putfield 9, 3) := by decide +kernel
theorem dX3_init_9 : decode cX3_init 9 = .ok (.aload_n 0, 1) := by decide +kernel
theorem dX3_init_10 : decode cX3_init 10 = .ok (.iconst 0, 1) := by decide +kernel
theorem dX3_init_11 : decode cX3_init 11 = .ok (.putfield 15, 3) := by decide +kernel
theorem dX3_init_14 : decode cX3_init 14 = .ok (.aload_n 0, 1) := by decide +kernel
theorem dX3_init_15 : decode cX3_init 15 = .ok (.iconst 0, 1) := by decide +kernel
theorem dX3_init_16 : decode cX3_init 16 = .ok (.putfield 18, 3) := by decide +kernel
theorem dX3_init_19 : decode cX3_init 19 = .ok (.aload_n 0, 1) := by decide +kernel
theorem dX3_init_20 : decode cX3_init 20 = .ok (.iconst 0, 1) := by decide +kernel
theorem dX3_init_21 : decode cX3_init 21 = .ok (.putfield 21, 3) := by decide +kernel
theorem dX3_init_24 : decode cX3_init 24 = .ok (.aload_n 0, 1) := by decide +kernel
theorem dX3_init_25 : decode cX3_init 25 = .ok (.iconst 0, 1) := by decide +kernel
theorem dX3_init_26 : decode cX3_init 26 = .ok (.putfield 24, 3) := by decide +kernel
theorem dX3_init_29 : decode cX3_init 29 = .ok (.aload_n 0, 1) := by decide +kernel
theorem dX3_init_30 : decode cX3_init 30 = .ok (.iconst 0, 1) := by decide +kernel
theorem dX3_init_31 : decode cX3_init 31 = .ok (.putfield 27, 3) := by decide +kernel
theorem dX3_init_34 : decode cX3_init 34 = .ok (.aload_n 0, 1) := by decide +kernel
theorem dX3_init_35 : decode cX3_init 35 = .ok (.iconst 0, 1) := by decide +kernel
theorem dX3_init_36 : decode cX3_init 36 = .ok (.putfield 30, 3) := by decide +kernel
theorem dX3_init_39 : decode cX3_init 39 = .ok (.aload_n 0, 1) := by decide +kernel
theorem dX3_init_40 : decode cX3_init 40 = .ok (.iconst 0, 1) := by decide +kernel
theorem dX3_init_41 : decode cX3_init 41 = .ok (.putfield 34, 3) := by decide +kernel
theorem dX3_init_44 : decode cX3_init 44 = .ok (.aload_n 0, 1) := by decide +kernel
theorem dX3_init_45 : decode cX3_init 45 = .ok (.bipush 16, 2) := by decide +kernel
theorem dX3_init_47 : decode cX3_init 47 = .ok (.newarray .int, 2) := by decide +kernel
theorem dX3_init_49 : decode cX3_init 49 = .ok (.putfield 37, 3) := by decide +kernel
theorem dX3_init_52 : decode cX3_init 52 = .ok (.aload_n 0, 1) := by decide +kernel
theorem dX3_init_53 : decode cX3_init 53 = .ok (.bipush 32, 2) := by decide +kernel
theorem dX3_init_55 : decode cX3_init 55 = .ok (.newarray .int, 2) := by decide +kernel
theorem dX3_init_57 : decode cX3_init 57 = .ok (.putfield 41, 3) := by decide +kernel
theorem dX3_init_60 : decode cX3_init 60 = .ok (.aload_n 0, 1) := by decide +kernel
theorem dX3_init_61 : decode cX3_init 61 = .ok (.iconst 0, 1) := by decide +kernel
theorem dX3_init_62 : decode cX3_init 62 = .ok (.putfield 44, 3) := by decide +kernel
theorem dX3_init_65 : decode cX3_init 65 = .ok (.aload_n 0, 1) := by decide +kernel
theorem dX3_init_66 : decode cX3_init 66 = .ok (.iconst 0, 1) := by decide +kernel
theorem dX3_init_67 : decode cX3_init 67 = .ok (.putfield 47, 3) := by decide +kernel
theorem dX3_init_70 : decode cX3_init 70 = .ok (.aload_n 0, 1) := by decide +kernel
theorem dX3_init_71 : decode cX3_init 71 = .ok (.iconst 0, 1) := by decide +kernel
theorem dX3_init_72 : decode cX3_init 72 = .ok (.putfield 50, 3) := by decide +kernel
theorem dX3_init_75 : decode cX3_init 75 = .ok (.aload_n 0, 1) := by decide +kernel
theorem dX3_init_76 : decode cX3_init 76 = .ok (.iconst 0, 1) := by decide +kernel
theorem dX3_init_77 : decode cX3_init 77 = .ok (.putfield 53, 3) := by decide +kernel
theorem dX3_init_80 : decode cX3_init 80 = .ok (.return_, 1) := by decide +kernel
theorem dX3_start_0 : decode cX3_start 0 = .ok (.aload_n 0, 1) := by decide +kernel
theorem dX3_start_1 : decode cX3_start 1 = .ok (.aload_n 0, 1) := by decide +kernel
theorem dX3_start_2 : decode cX3_start 2 = .ok (.getfield 18, 3) := by decide +kernel
theorem dX3_start_5 : decode cX3_start 5 = .ok (.ifCond .le 7, 3) := by decide +kernel
theorem dX3_start_8 : decode cX3_start 8 = .ok (.iconst 1, 1) := by decide +kernel
theorem dX3_start_9 : decode cX3_start 9 = .ok (.goto 4, 3) := by decide +kernel
theorem dX3_start_12 : decode cX3_start 12 = .ok (.iconst 0, 1) := by decide +kernel
theorem dX3_start_13 : decode cX3_start 13 = .ok (.putfield 30, 3) := by decide +kernel
theorem dX3_start_16 : decode cX3_start 16 = .ok (.aload_n 0, 1) := by decide +kernel
theorem dX3_start_17 : decode cX3_start 17 = .ok (.iconst 0, 1) := by decide +kernel
theorem dX3_start_18 : decode cX3_start 18 = .ok (.putfield 34, 3) := by decide +kernel
theorem dX3_start_21 : decode cX3_start 21 = .ok (.aload_n 0, 1) := by decide +kernel
theorem dX3_start_22 : decode cX3_start 22 = .ok (.iconst 0, 1) := by decide +kernel
theorem dX3_start_23 : decode cX3_start 23 = .ok (.putfield 44, 3) := by decide +kernel
theorem dX3_start_26 : decode cX3_start 26 = .ok (.aload_n 0, 1) := by decide +kernel
theorem dX3_start_27 : decode cX3_start 27 = .ok (.iconst 0, 1) := by decide +kernel
theorem dX3_start_28 : decode cX3_start 28 = .ok (.putfield 47, 3) := by decide +kernel
theorem dX3_start_31 : decode cX3_start 31 = .ok (.aload_n 0, 1) := by decide +kernel
theorem dX3_start_32 : decode cX3_start 32 = .ok (.iconst 0, 1) := by decide +kernel
theorem dX3_start_33 : decode cX3_start 33 = .ok (.putfield 50, 3) := by decide +kernel
theorem dX3_start_36 : decode cX3_start 36 = .ok (.aload_n 0, 1) := by decide +kernel
theorem dX3_start_37 : decode cX3_start 37 = .ok (.iconst 0, 1) := by decide +kernel
theorem dX3_start_38 : decode cX3_start 38 = .ok (.putfield 53, 3) := by decide +kernel
theorem dX3_start_41 : decode cX3_start 41 = .ok (.aload_n 0, 1) := by decide +kernel
theorem dX3_start_42 : decode cX3_start 42 = .ok (.invokevirtual 56, 3) := by decide +kernel
theorem dX3_start_45 : decode cX3_start 45 = .ok (.aload_n 1, 1) := by decide +kernel
theorem dX3_start_46 : decode cX3_start 46 = .ok (.aload_n 0, 1) := by decide +kernel
theorem dX3_start_47 : decode cX3_start 47 = .ok (.getfield 15, 3) := by decide +kernel
theorem dX3_start_50 : decode cX3_start 50 = .ok (.aload_n 0, 1) := by decide +kernel
theorem dX3_start_51 : decode cX3_start 51 = .ok (.getfield 41, 3) := by decide +kernel
theorem dX3_start_54 : decode cX3_start 54 = .ok (.iconst 0, 1) := by decide +kernel
theorem dX3_start_55 : decode cX3_start 55 = .ok (.aload_n 0, 1) := by decide +kernel
theorem dX3_start_56 : decode cX3_start 56 = .ok (.getfield 18, 3) := by decide +kernel
theorem dX3_start_59 : decode cX3_start 59 = .ok (.invokestatic 59, 3) := by decide +kernel
theorem dX3_start_62 : decode cX3_start 62 = .ok (.aload_n 0, 1) := by decide +kernel
theorem dX3_start_63 : decode cX3_start 63 = .ok (.aload_n 0, 1) := by decide +kernel
theorem dX3_start_64 : decode cX3_start 64 = .ok (.getfield 30, 3) := by decide +kernel
theorem dX3_start_67 : decode cX3_start 67 = .ok (.ifCond .eq 10, 3) := by decide +kernel
theorem dX3_start_70 : decode cX3_start 70 = .ok (.aload_n 0, 1) := by decide +kernel
theorem dX3_start_71 : decode cX3_start 71 = .ok (.invokevirtual 65, 3) := by decide +kernel
theorem dX3_start_74 : decode cX3_start 74 = .ok (.goto 4, 3) := by decide +kernel
theorem dX3_start_77 : decode cX3_start 77 = .ok (.iconst 0, 1) := by decide +kernel
theorem dX3_start_78 : decode cX3_start 78 = .ok (.putfield 24, 3) := by decide +kernel
theorem dX3_start_81 : decode cX3_start 81 = .ok (.return_, 1) := by decide +kernel
theorem dX3_measured_0 : decode cX3_measured 0 = .ok (.aload_n 0, 1) := by decide +kernel
theorem dX3_measured_1 : decode cX3_measured 1 = .ok (.getfield 15, 3) := by decide +kernel
theorem dX3_measured_4 : decode cX3_measured 4 = .ok (.aload_n 0, 1) := by decide +kernel
theorem dX3_measured_5 : decode cX3_measured 5 = .ok (.getfield 18, 3) := by decide +kernel
theorem dX3_measured_8 : decode cX3_measured 8 = .ok (.invokestatic 69, 3) := by decide +kernel
theorem dX3_measured_11 : decode cX3_measured 11 = .ok (.istore_n 1, 1) := by decide +kernel
theorem dX3_measured_12 : decode cX3_measured 12 = .ok (.iconst 0, 1) := by decide +kernel
theorem dX3_measured_13 : decode cX3_measured 13 = .ok (.istore_n 2, 1) := by decide +kernel
theorem dX3_measured_14 : decode cX3_measured 14 = .ok (.iload_n 2, 1) := by decide +kernel
theorem dX3_measured_15 : decode cX3_measured 15 = .ok (.aload_n 0, 1) := by decide +kernel
theorem dX3_measured_16 : decode cX3_measured 16 = .ok (.getfield 18, 3) := by decide +kernel
theorem dX3_measured_19 : decode cX3_measured 19 = .ok (.if_icmp .ge 20, 3) := by decide +kernel
theorem dX3_measured_22 : decode cX3_measured 22 = .ok (.iload_n 1, 1) := by decide +kernel
theorem dX3_measured_23 : decode cX3_measured 23 = .ok (.aload_n 0, 1) := by decide +kernel
theorem dX3_measured_24 : decode cX3_measured 24 = .ok (.getfield 41, 3) := by decide +kernel
theorem dX3_measured_27 : decode cX3_measured 27 = .ok (.iload_n 2, 1) := by decide +kernel
theorem dX3_measured_28 : decode cX3_measured 28 = .ok (.iaload, 1) := by decide +kernel
theorem dX3_measured_29 : decode cX3_measured 29 = .ok (.invokestatic 69, 3) := by decide +kernel
theorem dX3_measured_32 : decode cX3_measured 32 = .ok (.istore_n 1, 1) := by decide +kernel
theorem dX3_measured_33 : decode cX3_measured 33 = .ok (.iinc 2 1, 3) := by decide +kernel
theorem dX3_measured_36 : decode cX3_measured 36 = .ok (.goto (-22), 3) := by decide +kernel
theorem dX3_measured_39 : decode cX3_measured 39 = .ok (.iload_n 1, 1) := by decide +kernel
theorem dX3_measured_40 : decode cX3_measured 40 = .ok (.ireturn, 1) := by decide +kernel
theorem dX3_clearRegisters_0 : decode cX3_clearRegisters 0 = .ok (.aload_n 0, 1) := by decide +kernel
theorem dX3_clearRegisters_1 : decode cX3_clearRegisters 1 = .ok (.iconst 0, 1) := by decide +kernel
theorem dX3_clearRegisters_2 : decode cX3_clearRegisters 2 = .ok (.putfield 27, 3) := by decide +kernel
theorem dX3_clearRegisters_5 : decode cX3_clearRegisters 5 = .ok (.iconst 0, 1) := by decide +kernel
theorem dX3_clearRegisters_6 : decode cX3_clearRegisters 6 = .ok (.istore_n 1, 1) := by decide +kernel
theorem dX3_clearRegisters_7 : decode cX3_clearRegisters 7 = .ok (.iload_n 1, 1) := by decide +kernel
theorem dX3_clearRegisters_8 : decode cX3_clearRegisters 8 = .ok (.bipush 16, 2) := by decide +kernel
theorem dX3_clearRegisters_10 : decode cX3_clearRegisters 10 = .ok (.if_icmp .ge 16, 3) := by decide +kernel
theorem dX3_clearRegisters_13 : decode cX3_clearRegisters 13 = .ok (.aload_n 0, 1) := by decide +kernel
theorem dX3_clearRegisters_14 : decode cX3_clearRegisters 14 = .ok (.getfield 37, 3) := by decide +kernel
theorem dX3_clearRegisters_17 : decode cX3_clearRegisters 17 = .ok (.iload_n 1, 1) := by decide +kernel
theorem dX3_clearRegisters_18 : decode cX3_clearRegisters 18 = .ok (.iconst 0, 1) := by decide +kernel
theorem dX3_clearRegisters_19 : decode cX3_clearRegisters 19 = .ok (.iastore, 1) := by decide +kernel
theorem dX3_clearRegisters_20 : decode cX3_clearRegisters 20 = .ok (.iinc 1 1, 3) := by decide +kernel
theorem dX3_clearRegisters_23 : decode cX3_clearRegisters 23 = .ok (.goto (-16), 3) := by decide +kernel
theorem dX3_clearRegisters_26 : decode cX3_clearRegisters 26 = .ok (.return_, 1) := by decide +kernel
theorem dX3_overlaps_0 : decode cX3_overlaps 0 = .ok (.aload_n 0, 1) := by decide +kernel
theorem dX3_overlaps_1 : decode cX3_overlaps 1 = .ok (.getfield 18, 3) := by decide +kernel
theorem dX3_overlaps_4 : decode cX3_overlaps 4 = .ok (.ifCond .le 34, 3) := by decide +kernel
theorem dX3_overlaps_7 : decode cX3_overlaps 7 = .ok (.iload_n 2, 1) := by decide +kernel
theorem dX3_overlaps_8 : decode cX3_overlaps 8 = .ok (.ifCond .le 30, 3) := by decide +kernel
theorem dX3_overlaps_11 : decode cX3_overlaps 11 = .ok (.aload_n 0, 1) := by decide +kernel
theorem dX3_overlaps_12 : decode cX3_overlaps 12 = .ok (.getfield 15, 3) := by decide +kernel
theorem dX3_overlaps_15 : decode cX3_overlaps 15 = .ok (.iload_n 1, 1) := by decide +kernel
theorem dX3_overlaps_16 : decode cX3_overlaps 16 = .ok (.iload_n 2, 1) := by decide +kernel
theorem dX3_overlaps_17 : decode cX3_overlaps 17 = .ok (.iadd, 1) := by decide +kernel
theorem dX3_overlaps_18 : decode cX3_overlaps 18 = .ok (.if_icmp .ge 20, 3) := by decide +kernel
theorem dX3_overlaps_21 : decode cX3_overlaps 21 = .ok (.iload_n 1, 1) := by decide +kernel
theorem dX3_overlaps_22 : decode cX3_overlaps 22 = .ok (.aload_n 0, 1) := by decide +kernel
theorem dX3_overlaps_23 : decode cX3_overlaps 23 = .ok (.getfield 15, 3) := by decide +kernel
theorem dX3_overlaps_26 : decode cX3_overlaps 26 = .ok (.aload_n 0, 1) := by decide +kernel
theorem dX3_overlaps_27 : decode cX3_overlaps 27 = .ok (.getfield 18, 3) := by decide +kernel
theorem dX3_overlaps_30 : decode cX3_overlaps 30 = .ok (.iadd, 1) := by decide +kernel
theorem dX3_overlaps_31 : decode cX3_overlaps 31 = .ok (.if_icmp .ge 7, 3) := by decide +kernel
theorem dX3_overlaps_34 : decode cX3_overlaps 34 = .ok (.iconst 1, 1) := by decide +kernel
theorem dX3_overlaps_35 : decode cX3_overlaps 35 = .ok (.goto 4, 3) := by decide +kernel
theorem dX3_overlaps_38 : decode cX3_overlaps 38 = .ok (.iconst 0, 1) := by decide +kernel
theorem dX3_overlaps_39 : decode cX3_overlaps 39 = .ok (.ireturn, 1) := by decide +kernel
theorem dX3_holds_0 : decode cX3_holds 0 = .ok (.iload_n 1, 1) := by decide +kernel
theorem dX3_holds_1 : decode cX3_holds 1 = .ok (.iconst 0, 1) := by decide +kernel
theorem dX3_holds_2 : decode cX3_holds 2 = .ok (.iconst 4, 1) := by decide +kernel
theorem dX3_holds_3 : decode cX3_holds 3 = .ok (.aload_n 0, 1) := by decide +kernel
theorem dX3_holds_4 : decode cX3_holds 4 = .ok (.getfield 18, 3) := by decide +kernel
theorem dX3_holds_7 : decode cX3_holds 7 = .ok (.imul, 1) := by decide +kernel
theorem dX3_holds_8 : decode cX3_holds 8 = .ok (.iconst 4, 1) := by decide +kernel
theorem dX3_holds_9 : decode cX3_holds 9 = .ok (.isub, 1) := by decide +kernel
theorem dX3_holds_10 : decode cX3_holds 10 = .ok (.invokestatic 73, 3) := by decide +kernel
theorem dX3_holds_13 : decode cX3_holds 13 = .ok (.ireturn, 1) := by decide +kernel
theorem dX3_get_0 : decode cX3_get 0 = .ok (.iload_n 1, 1) := by decide +kernel
theorem dX3_get_1 : decode cX3_get 1 = .ok (.ifCond .le 18, 3) := by decide +kernel
theorem dX3_get_4 : decode cX3_get 4 = .ok (.iload_n 1, 1) := by decide +kernel
theorem dX3_get_5 : decode cX3_get 5 = .ok (.bipush 16, 2) := by decide +kernel
theorem dX3_get_7 : decode cX3_get 7 = .ok (.if_icmp .ge 12, 3) := by decide +kernel
theorem dX3_get_10 : decode cX3_get 10 = .ok (.aload_n 0, 1) := by decide +kernel
theorem dX3_get_11 : decode cX3_get 11 = .ok (.getfield 37, 3) := by decide +kernel
theorem dX3_get_14 : decode cX3_get 14 = .ok (.iload_n 1, 1) := by decide +kernel
theorem dX3_get_15 : decode cX3_get 15 = .ok (.iaload, 1) := by decide +kernel
theorem dX3_get_16 : decode cX3_get 16 = .ok (.goto 4, 3) := by decide +kernel
theorem dX3_get_19 : decode cX3_get 19 = .ok (.iconst 0, 1) := by decide +kernel
theorem dX3_get_20 : decode cX3_get 20 = .ok (.ireturn, 1) := by decide +kernel
theorem dX3_put_0 : decode cX3_put 0 = .ok (.iload_n 1, 1) := by decide +kernel
theorem dX3_put_1 : decode cX3_put 1 = .ok (.ifCond .le 16, 3) := by decide +kernel
theorem dX3_put_4 : decode cX3_put 4 = .ok (.iload_n 1, 1) := by decide +kernel
theorem dX3_put_5 : decode cX3_put 5 = .ok (.bipush 16, 2) := by decide +kernel
theorem dX3_put_7 : decode cX3_put 7 = .ok (.if_icmp .ge 10, 3) := by decide +kernel
theorem dX3_put_10 : decode cX3_put 10 = .ok (.aload_n 0, 1) := by decide +kernel
theorem dX3_put_11 : decode cX3_put 11 = .ok (.getfield 37, 3) := by decide +kernel
theorem dX3_put_14 : decode cX3_put 14 = .ok (.iload_n 1, 1) := by decide +kernel
theorem dX3_put_15 : decode cX3_put 15 = .ok (.iload_n 2, 1) := by decide +kernel
theorem dX3_put_16 : decode cX3_put 16 = .ok (.iastore, 1) := by decide +kernel
theorem dX3_put_17 : decode cX3_put 17 = .ok (.return_, 1) := by decide +kernel
theorem dX3_noteBegun_0 : decode cX3_noteBegun 0 = .ok (.aload_n 0, 1) := by decide +kernel
theorem dX3_noteBegun_1 : decode cX3_noteBegun 1 = .ok (.dup, 1) := by decide +kernel
theorem dX3_noteBegun_2 : decode cX3_noteBegun 2 = .ok (.getfield 53, 3) := by decide +kernel
theorem dX3_noteBegun_5 : decode cX3_noteBegun 5 = .ok (.iconst 1, 1) := by decide +kernel
theorem dX3_noteBegun_6 : decode cX3_noteBegun 6 = .ok (.iadd, 1) := by decide +kernel
theorem dX3_noteBegun_7 : decode cX3_noteBegun 7 = .ok (.putfield 53, 3) := by decide +kernel
theorem dX3_noteBegun_10 : decode cX3_noteBegun 10 = .ok (.return_, 1) := by decide +kernel
theorem dX3_suffer_0 : decode cX3_suffer 0 = .ok (.aload_n 0, 1) := by decide +kernel
theorem dX3_suffer_1 : decode cX3_suffer 1 = .ok (.dup, 1) := by decide +kernel
theorem dX3_suffer_2 : decode cX3_suffer 2 = .ok (.getfield 44, 3) := by decide +kernel
theorem dX3_suffer_5 : decode cX3_suffer 5 = .ok (.iconst 1, 1) := by decide +kernel
theorem dX3_suffer_6 : decode cX3_suffer 6 = .ok (.iadd, 1) := by decide +kernel
theorem dX3_suffer_7 : decode cX3_suffer 7 = .ok (.putfield 44, 3) := by decide +kernel
theorem dX3_suffer_10 : decode cX3_suffer 10 = .ok (.aload_n 0, 1) := by decide +kernel
theorem dX3_suffer_11 : decode cX3_suffer 11 = .ok (.iload_n 1, 1) := by decide +kernel
theorem dX3_suffer_12 : decode cX3_suffer 12 = .ok (.putfield 47, 3) := by decide +kernel
theorem dX3_suffer_15 : decode cX3_suffer 15 = .ok (.aload_n 0, 1) := by decide +kernel
theorem dX3_suffer_16 : decode cX3_suffer 16 = .ok (.getfield 21, 3) := by decide +kernel
theorem dX3_suffer_19 : decode cX3_suffer 19 = .ok (.iconst 2, 1) := by decide +kernel
theorem dX3_suffer_20 : decode cX3_suffer 20 = .ok (.if_icmp .ne 16, 3) := by decide +kernel
theorem dX3_suffer_23 : decode cX3_suffer 23 = .ok (.aload_n 0, 1) := by decide +kernel
theorem dX3_suffer_24 : decode cX3_suffer 24 = .ok (.dup, 1) := by decide +kernel
theorem dX3_suffer_25 : decode cX3_suffer 25 = .ok (.getfield 27, 3) := by decide +kernel
theorem dX3_suffer_28 : decode cX3_suffer 28 = .ok (.iconst 4, 1) := by decide +kernel
theorem dX3_suffer_29 : decode cX3_suffer 29 = .ok (.iadd, 1) := by decide +kernel
theorem dX3_suffer_30 : decode cX3_suffer 30 = .ok (.putfield 27, 3) := by decide +kernel
theorem dX3_suffer_33 : decode cX3_suffer 33 = .ok (.goto 32, 3) := by decide +kernel
theorem dX3_suffer_36 : decode cX3_suffer 36 = .ok (.aload_n 0, 1) := by decide +kernel
theorem dX3_suffer_37 : decode cX3_suffer 37 = .ok (.getfield 21, 3) := by decide +kernel
theorem dX3_suffer_40 : decode cX3_suffer 40 = .ok (.iconst 1, 1) := by decide +kernel
theorem dX3_suffer_41 : decode cX3_suffer 41 = .ok (.if_icmp .ne 19, 3) := by decide +kernel
theorem dX3_suffer_44 : decode cX3_suffer 44 = .ok (.aload_n 0, 1) := by decide +kernel
theorem dX3_suffer_45 : decode cX3_suffer 45 = .ok (.getfield 50, 3) := by decide +kernel
theorem dX3_suffer_48 : decode cX3_suffer 48 = .ok (.iconst 3, 1) := by decide +kernel
theorem dX3_suffer_49 : decode cX3_suffer 49 = .ok (.if_icmp .ge 11, 3) := by decide +kernel
theorem dX3_suffer_52 : decode cX3_suffer 52 = .ok (.aload_n 0, 1) := by decide +kernel
theorem dX3_suffer_53 : decode cX3_suffer 53 = .ok (.aload_n 2, 1) := by decide +kernel
theorem dX3_suffer_54 : decode cX3_suffer 54 = .ok (.invokevirtual 77, 3) := by decide +kernel
theorem dX3_suffer_57 : decode cX3_suffer 57 = .ok (.goto 8, 3) := by decide +kernel
theorem dX3_suffer_60 : decode cX3_suffer 60 = .ok (.aload_n 0, 1) := by decide +kernel
theorem dX3_suffer_61 : decode cX3_suffer 61 = .ok (.iconst 0, 1) := by decide +kernel
theorem dX3_suffer_62 : decode cX3_suffer 62 = .ok (.putfield 30, 3) := by decide +kernel
theorem dX3_suffer_65 : decode cX3_suffer 65 = .ok (.return_, 1) := by decide +kernel
theorem dX3_restart_0 : decode cX3_restart 0 = .ok (.aload_n 0, 1) := by decide +kernel
theorem dX3_restart_1 : decode cX3_restart 1 = .ok (.dup, 1) := by decide +kernel
theorem dX3_restart_2 : decode cX3_restart 2 = .ok (.getfield 50, 3) := by decide +kernel
theorem dX3_restart_5 : decode cX3_restart 5 = .ok (.iconst 1, 1) := by decide +kernel
theorem dX3_restart_6 : decode cX3_restart 6 = .ok (.iadd, 1) := by decide +kernel
theorem dX3_restart_7 : decode cX3_restart 7 = .ok (.putfield 50, 3) := by decide +kernel
theorem dX3_restart_10 : decode cX3_restart 10 = .ok (.aload_n 0, 1) := by decide +kernel
theorem dX3_restart_11 : decode cX3_restart 11 = .ok (.getfield 41, 3) := by decide +kernel
theorem dX3_restart_14 : decode cX3_restart 14 = .ok (.iconst 0, 1) := by decide +kernel
theorem dX3_restart_15 : decode cX3_restart 15 = .ok (.aload_n 1, 1) := by decide +kernel
theorem dX3_restart_16 : decode cX3_restart 16 = .ok (.aload_n 0, 1) := by decide +kernel
theorem dX3_restart_17 : decode cX3_restart 17 = .ok (.getfield 15, 3) := by decide +kernel
theorem dX3_restart_20 : decode cX3_restart 20 = .ok (.aload_n 0, 1) := by decide +kernel
theorem dX3_restart_21 : decode cX3_restart 21 = .ok (.getfield 18, 3) := by decide +kernel
theorem dX3_restart_24 : decode cX3_restart 24 = .ok (.invokestatic 59, 3) := by decide +kernel
theorem dX3_restart_27 : decode cX3_restart 27 = .ok (.aload_n 0, 1) := by decide +kernel
theorem dX3_restart_28 : decode cX3_restart 28 = .ok (.invokevirtual 56, 3) := by decide +kernel
theorem dX3_restart_31 : decode cX3_restart 31 = .ok (.aload_n 0, 1) := by decide +kernel
theorem dX3_restart_32 : decode cX3_restart 32 = .ok (.iconst 1, 1) := by decide +kernel
theorem dX3_restart_33 : decode cX3_restart 33 = .ok (.putfield 34, 3) := by decide +kernel
theorem dX3_restart_36 : decode cX3_restart 36 = .ok (.return_, 1) := by decide +kernel
theorem dX3_sinceBooted_0 : decode cX3_sinceBooted 0 = .ok (.iload_n 1, 1) := by decide +kernel
theorem dX3_sinceBooted_1 : decode cX3_sinceBooted 1 = .ok (.tableswitch 68 0 4 #[35, 48, 53, 58, 63], 35) := by decide +kernel
theorem dX3_sinceBooted_36 : decode cX3_sinceBooted 36 = .ok (.aload_n 0, 1) := by decide +kernel
theorem dX3_sinceBooted_37 : decode cX3_sinceBooted 37 = .ok (.getfield 30, 3) := by decide +kernel
theorem dX3_sinceBooted_40 : decode cX3_sinceBooted 40 = .ok (.ifCond .eq 7, 3) := by decide +kernel
theorem dX3_sinceBooted_43 : decode cX3_sinceBooted 43 = .ok (.iconst 1, 1) := by decide +kernel
theorem dX3_sinceBooted_44 : decode cX3_sinceBooted 44 = .ok (.goto 4, 3) := by decide +kernel
theorem dX3_sinceBooted_47 : decode cX3_sinceBooted 47 = .ok (.iconst 0, 1) := by decide +kernel
theorem dX3_sinceBooted_48 : decode cX3_sinceBooted 48 = .ok (.ireturn, 1) := by decide +kernel
theorem dX3_sinceBooted_49 : decode cX3_sinceBooted 49 = .ok (.aload_n 0, 1) := by decide +kernel
theorem dX3_sinceBooted_50 : decode cX3_sinceBooted 50 = .ok (.getfield 44, 3) := by decide +kernel
theorem dX3_sinceBooted_53 : decode cX3_sinceBooted 53 = .ok (.ireturn, 1) := by decide +kernel
theorem dX3_sinceBooted_54 : decode cX3_sinceBooted 54 = .ok (.aload_n 0, 1) := by decide +kernel
theorem dX3_sinceBooted_55 : decode cX3_sinceBooted 55 = .ok (.getfield 47, 3) := by decide +kernel
theorem dX3_sinceBooted_58 : decode cX3_sinceBooted 58 = .ok (.ireturn, 1) := by decide +kernel
theorem dX3_sinceBooted_59 : decode cX3_sinceBooted 59 = .ok (.aload_n 0, 1) := by decide +kernel
theorem dX3_sinceBooted_60 : decode cX3_sinceBooted 60 = .ok (.getfield 50, 3) := by decide +kernel
theorem dX3_sinceBooted_63 : decode cX3_sinceBooted 63 = .ok (.ireturn, 1) := by decide +kernel
theorem dX3_sinceBooted_64 : decode cX3_sinceBooted 64 = .ok (.aload_n 0, 1) := by decide +kernel
theorem dX3_sinceBooted_65 : decode cX3_sinceBooted 65 = .ok (.getfield 53, 3) := by decide +kernel
theorem dX3_sinceBooted_68 : decode cX3_sinceBooted 68 = .ok (.ireturn, 1) := by decide +kernel
theorem dX3_sinceBooted_69 : decode cX3_sinceBooted 69 = .ok (.aload_n 0, 1) := by decide +kernel
theorem dX3_sinceBooted_70 : decode cX3_sinceBooted 70 = .ok (.getfield 24, 3) := by decide +kernel
theorem dX3_sinceBooted_73 : decode cX3_sinceBooted 73 = .ok (.ireturn, 1) := by decide +kernel
theorem dX7_init_0 : decode cX7_init 0 = .ok (.aload_n 0, 1) := by decide +kernel
theorem dX7_init_1 : decode cX7_init 1 = .ok (.invokespecial 1, 3) := by decide +kernel
theorem dX7_init_4 : decode cX7_init 4 = .ok (.aload_n 0, 1) := by decide +kernel
theorem dX7_init_5 : decode cX7_init 5 = .ok (.new 7, 3) := by decide +kernel
theorem dX7_init_8 : decode cX7_init 8 = .ok (.dup, 1) := by decide +kernel
theorem dX7_init_9 : decode cX7_init 9 = .ok (.iload_n 1, 1) := by decide +kernel
theorem dX7_init_10 : decode cX7_init 10 = .ok (.invokespecial 9, 3) := by decide +kernel
theorem dX7_init_13 : decode cX7_init 13 = .ok (.putfield 12, 3) := by decide +kernel
theorem dX7_init_16 : decode cX7_init 16 = .ok (.aload_n 0, 1) := by decide +kernel
theorem dX7_init_17 : decode cX7_init 17 = .ok (.new 18, 3) := by decide +kernel
theorem dX7_init_20 : decode cX7_init 20 = .ok (.dup, 1) := by decide +kernel
theorem dX7_init_21 : decode cX7_init 21 = .ok (.invokespecial 20, 3) := by decide +kernel
theorem dX7_init_24 : decode cX7_init 24 = .ok (.putfield 21, 3) := by decide +kernel
theorem dX7_init_27 : decode cX7_init 27 = .ok (.aload_n 0, 1) := by decide +kernel
theorem dX7_init_28 : decode cX7_init 28 = .ok (.iconst 0, 1) := by decide +kernel
theorem dX7_init_29 : decode cX7_init 29 = .ok (.putfield 25, 3) := by decide +kernel
theorem dX7_init_32 : decode cX7_init 32 = .ok (.aload_n 0, 1) := by decide +kernel
theorem dX7_init_33 : decode cX7_init 33 = .ok (.iconst 0, 1) := by decide +kernel
theorem dX7_init_34 : decode cX7_init 34 = .ok (.putfield 29, 3) := by decide +kernel
theorem dX7_init_37 : decode cX7_init 37 = .ok (.aload_n 0, 1) := by decide +kernel
theorem dX7_init_38 : decode cX7_init 38 = .ok (.iconst 0, 1) := by decide +kernel
theorem dX7_init_39 : decode cX7_init 39 = .ok (.putfield 33, 3) := by decide +kernel
theorem dX7_init_42 : decode cX7_init 42 = .ok (.return_, 1) := by decide +kernel
theorem dX7_region_0 : decode cX7_region 0 = .ok (.iload_n 1, 1) := by decide +kernel
theorem dX7_region_1 : decode cX7_region 1 = .ok (.invokestatic 36, 3) := by decide +kernel
theorem dX7_region_4 : decode cX7_region 4 = .ok (.ifCond .eq 35, 3) := by decide +kernel
theorem dX7_region_7 : decode cX7_region 7 = .ok (.iload_n 2, 1) := by decide +kernel
theorem dX7_region_8 : decode cX7_region 8 = .ok (.iconst 0, 1) := by decide +kernel
theorem dX7_region_9 : decode cX7_region 9 = .ok (.bipush 95, 2) := by decide +kernel
theorem dX7_region_11 : decode cX7_region 11 = .ok (.invokestatic 40, 3) := by decide +kernel
theorem dX7_region_14 : decode cX7_region 14 = .ok (.ifCond .eq 25, 3) := by decide +kernel
theorem dX7_region_17 : decode cX7_region 17 = .ok (.iload_n 3, 1) := by decide +kernel
theorem dX7_region_18 : decode cX7_region 18 = .ok (.iconst 0, 1) := by decide +kernel
theorem dX7_region_19 : decode cX7_region 19 = .ok (.bipush 32, 2) := by decide +kernel
theorem dX7_region_21 : decode cX7_region 21 = .ok (.invokestatic 40, 3) := by decide +kernel
theorem dX7_region_24 : decode cX7_region 24 = .ok (.ifCond .eq 15, 3) := by decide +kernel
theorem dX7_region_27 : decode cX7_region 27 = .ok (.iload_n 2, 1) := by decide +kernel
theorem dX7_region_28 : decode cX7_region 28 = .ok (.iload_n 3, 1) := by decide +kernel
theorem dX7_region_29 : decode cX7_region 29 = .ok (.iadd, 1) := by decide +kernel
theorem dX7_region_30 : decode cX7_region 30 = .ok (.bipush 96, 2) := by decide +kernel
theorem dX7_region_32 : decode cX7_region 32 = .ok (.if_icmp .gt 7, 3) := by decide +kernel
theorem dX7_region_35 : decode cX7_region 35 = .ok (.iconst 1, 1) := by decide +kernel
theorem dX7_region_36 : decode cX7_region 36 = .ok (.goto 4, 3) := by decide +kernel
theorem dX7_region_39 : decode cX7_region 39 = .ok (.iconst 0, 1) := by decide +kernel
theorem dX7_region_40 : decode cX7_region 40 = .ok (.invokestatic 44, 3) := by decide +kernel
theorem dX7_region_43 : decode cX7_region 43 = .ok (.aload_n 0, 1) := by decide +kernel
theorem dX7_region_44 : decode cX7_region 44 = .ok (.getfield 25, 3) := by decide +kernel
theorem dX7_region_47 : decode cX7_region 47 = .ok (.ifCond .ne 7, 3) := by decide +kernel
theorem dX7_region_50 : decode cX7_region 50 = .ok (.iconst 1, 1) := by decide +kernel
theorem dX7_region_51 : decode cX7_region 51 = .ok (.goto 4, 3) := by decide +kernel
theorem dX7_region_54 : decode cX7_region 54 = .ok (.iconst 0, 1) := by decide +kernel
theorem dX7_region_55 : decode cX7_region 55 = .ok (.invokestatic 48, 3) := by decide +kernel
theorem dX7_region_58 : decode cX7_region 58 = .ok (.aload_n 0, 1) := by decide +kernel
theorem dX7_region_59 : decode cX7_region 59 = .ok (.getfield 12, 3) := by decide +kernel
theorem dX7_region_62 : decode cX7_region 62 = .ok (.iload_n 1, 1) := by decide +kernel
theorem dX7_region_63 : decode cX7_region 63 = .ok (.iload_n 2, 1) := by decide +kernel
theorem dX7_region_64 : decode cX7_region 64 = .ok (.iload_n 3, 1) := by decide +kernel
theorem dX7_region_65 : decode cX7_region 65 = .ok (.invokevirtual 51, 3) := by decide +kernel
theorem dX7_region_68 : decode cX7_region 68 = .ok (.ifCond .eq 11, 3) := by decide +kernel
theorem dX7_region_71 : decode cX7_region 71 = .ok (.new 54, 3) := by decide +kernel
theorem dX7_region_74 : decode cX7_region 74 = .ok (.dup, 1) := by decide +kernel
theorem dX7_region_75 : decode cX7_region 75 = .ok (.invokespecial 56, 3) := by decide +kernel
theorem dX7_region_78 : decode cX7_region 78 = .ok (.athrow, 1) := by decide +kernel
theorem dX7_region_79 : decode cX7_region 79 = .ok (.aload_n 0, 1) := by decide +kernel
theorem dX7_region_80 : decode cX7_region 80 = .ok (.getfield 12, 3) := by decide +kernel
theorem dX7_region_83 : decode cX7_region 83 = .ok (.getfield 57, 3) := by decide +kernel
theorem dX7_region_86 : decode cX7_region 86 = .ok (.iload_n 1, 1) := by decide +kernel
theorem dX7_region_87 : decode cX7_region 87 = .ok (.aaload, 1) := by decide +kernel
theorem dX7_region_88 : decode cX7_region 88 = .ok (.astore 4, 2) := by decide +kernel
theorem dX7_region_90 : decode cX7_region 90 = .ok (.aload 4, 2) := by decide +kernel
theorem dX7_region_92 : decode cX7_region 92 = .ok (.iload_n 2, 1) := by decide +kernel
theorem dX7_region_93 : decode cX7_region 93 = .ok (.putfield 61, 3) := by decide +kernel
theorem dX7_region_96 : decode cX7_region 96 = .ok (.aload 4, 2) := by decide +kernel
theorem dX7_region_98 : decode cX7_region 98 = .ok (.iload_n 3, 1) := by decide +kernel
theorem dX7_region_99 : decode cX7_region 99 = .ok (.putfield 66, 3) := by decide +kernel
theorem dX7_region_102 : decode cX7_region 102 = .ok (.return_, 1) := by decide +kernel
theorem dX7_load_0 : decode cX7_load 0 = .ok (.iload_n 1, 1) := by decide +kernel
theorem dX7_load_1 : decode cX7_load 1 = .ok (.invokestatic 69, 3) := by decide +kernel
theorem dX7_load_4 : decode cX7_load 4 = .ok (.invokestatic 44, 3) := by decide +kernel
theorem dX7_load_7 : decode cX7_load 7 = .ok (.aload_n 0, 1) := by decide +kernel
theorem dX7_load_8 : decode cX7_load 8 = .ok (.getfield 25, 3) := by decide +kernel
theorem dX7_load_11 : decode cX7_load 11 = .ok (.ifCond .ne 7, 3) := by decide +kernel
theorem dX7_load_14 : decode cX7_load 14 = .ok (.iconst 1, 1) := by decide +kernel
theorem dX7_load_15 : decode cX7_load 15 = .ok (.goto 4, 3) := by decide +kernel
theorem dX7_load_18 : decode cX7_load 18 = .ok (.iconst 0, 1) := by decide +kernel
theorem dX7_load_19 : decode cX7_load 19 = .ok (.invokestatic 48, 3) := by decide +kernel
theorem dX7_load_22 : decode cX7_load 22 = .ok (.aload_n 0, 1) := by decide +kernel
theorem dX7_load_23 : decode cX7_load 23 = .ok (.getfield 12, 3) := by decide +kernel
theorem dX7_load_26 : decode cX7_load 26 = .ok (.getfield 72, 3) := by decide +kernel
theorem dX7_load_29 : decode cX7_load 29 = .ok (.iload_n 1, 1) := by decide +kernel
theorem dX7_load_30 : decode cX7_load 30 = .ok (.iload_n 2, 1) := by decide +kernel
theorem dX7_load_31 : decode cX7_load 31 = .ok (.iastore, 1) := by decide +kernel
theorem dX7_load_32 : decode cX7_load 32 = .ok (.return_, 1) := by decide +kernel
theorem dX7_policy_0 : decode cX7_policy 0 = .ok (.iload_n 1, 1) := by decide +kernel
theorem dX7_policy_1 : decode cX7_policy 1 = .ok (.invokestatic 36, 3) := by decide +kernel
theorem dX7_policy_4 : decode cX7_policy 4 = .ok (.ifCond .eq 16, 3) := by decide +kernel
theorem dX7_policy_7 : decode cX7_policy 7 = .ok (.iload_n 2, 1) := by decide +kernel
theorem dX7_policy_8 : decode cX7_policy 8 = .ok (.iconst 0, 1) := by decide +kernel
theorem dX7_policy_9 : decode cX7_policy 9 = .ok (.iconst 2, 1) := by decide +kernel
theorem dX7_policy_10 : decode cX7_policy 10 = .ok (.invokestatic 40, 3) := by decide +kernel
theorem dX7_policy_13 : decode cX7_policy 13 = .ok (.ifCond .eq 7, 3) := by decide +kernel
theorem dX7_policy_16 : decode cX7_policy 16 = .ok (.iconst 1, 1) := by decide +kernel
theorem dX7_policy_17 : decode cX7_policy 17 = .ok (.goto 4, 3) := by decide +kernel
theorem dX7_policy_20 : decode cX7_policy 20 = .ok (.iconst 0, 1) := by decide +kernel
theorem dX7_policy_21 : decode cX7_policy 21 = .ok (.invokestatic 44, 3) := by decide +kernel
theorem dX7_policy_24 : decode cX7_policy 24 = .ok (.aload_n 0, 1) := by decide +kernel
theorem dX7_policy_25 : decode cX7_policy 25 = .ok (.getfield 25, 3) := by decide +kernel
theorem dX7_policy_28 : decode cX7_policy 28 = .ok (.ifCond .ne 7, 3) := by decide +kernel
theorem dX7_policy_31 : decode cX7_policy 31 = .ok (.iconst 1, 1) := by decide +kernel
theorem dX7_policy_32 : decode cX7_policy 32 = .ok (.goto 4, 3) := by decide +kernel
theorem dX7_policy_35 : decode cX7_policy 35 = .ok (.iconst 0, 1) := by decide +kernel
theorem dX7_policy_36 : decode cX7_policy 36 = .ok (.invokestatic 48, 3) := by decide +kernel
theorem dX7_policy_39 : decode cX7_policy 39 = .ok (.aload_n 0, 1) := by decide +kernel
theorem dX7_policy_40 : decode cX7_policy 40 = .ok (.getfield 12, 3) := by decide +kernel
theorem dX7_policy_43 : decode cX7_policy 43 = .ok (.getfield 57, 3) := by decide +kernel
theorem dX7_policy_46 : decode cX7_policy 46 = .ok (.iload_n 1, 1) := by decide +kernel
theorem dX7_policy_47 : decode cX7_policy 47 = .ok (.aaload, 1) := by decide +kernel
theorem dX7_policy_48 : decode cX7_policy 48 = .ok (.iload_n 2, 1) := by decide +kernel
theorem dX7_policy_49 : decode cX7_policy 49 = .ok (.putfield 76, 3) := by decide +kernel
theorem dX7_policy_52 : decode cX7_policy 52 = .ok (.return_, 1) := by decide +kernel
theorem dX7_window_0 : decode cX7_window 0 = .ok (.iload_n 1, 1) := by decide +kernel
theorem dX7_window_1 : decode cX7_window 1 = .ok (.invokestatic 36, 3) := by decide +kernel
theorem dX7_window_4 : decode cX7_window 4 = .ok (.ifCond .eq 17, 3) := by decide +kernel
theorem dX7_window_7 : decode cX7_window 7 = .ok (.iload_n 2, 1) := by decide +kernel
theorem dX7_window_8 : decode cX7_window 8 = .ok (.iconst 1, 1) := by decide +kernel
theorem dX7_window_9 : decode cX7_window 9 = .ok (.bipush 20, 2) := by decide +kernel
theorem dX7_window_11 : decode cX7_window 11 = .ok (.invokestatic 40, 3) := by decide +kernel
theorem dX7_window_14 : decode cX7_window 14 = .ok (.ifCond .eq 7, 3) := by decide +kernel
theorem dX7_window_17 : decode cX7_window 17 = .ok (.iconst 1, 1) := by decide +kernel
theorem dX7_window_18 : decode cX7_window 18 = .ok (.goto 4, 3) := by decide +kernel
theorem dX7_window_21 : decode cX7_window 21 = .ok (.iconst 0, 1) := by decide +kernel
theorem dX7_window_22 : decode cX7_window 22 = .ok (.invokestatic 44, 3) := by decide +kernel
theorem dX7_window_25 : decode cX7_window 25 = .ok (.aload_n 0, 1) := by decide +kernel
theorem dX7_window_26 : decode cX7_window 26 = .ok (.getfield 25, 3) := by decide +kernel
theorem dX7_window_29 : decode cX7_window 29 = .ok (.ifCond .ne 19, 3) := by decide +kernel
theorem dX7_window_32 : decode cX7_window 32 = .ok (.aload_n 0, 1) := by decide +kernel
theorem dX7_window_33 : decode cX7_window 33 = .ok (.getfield 21, 3) := by decide +kernel
theorem dX7_window_36 : decode cX7_window 36 = .ok (.getfield 79, 3) := by decide +kernel
theorem dX7_window_39 : decode cX7_window 39 = .ok (.bipush 6, 2) := by decide +kernel
theorem dX7_window_41 : decode cX7_window 41 = .ok (.if_icmp .ge 7, 3) := by decide +kernel
theorem dX7_window_44 : decode cX7_window 44 = .ok (.iconst 1, 1) := by decide +kernel
theorem dX7_window_45 : decode cX7_window 45 = .ok (.goto 4, 3) := by decide +kernel
theorem dX7_window_48 : decode cX7_window 48 = .ok (.iconst 0, 1) := by decide +kernel
theorem dX7_window_49 : decode cX7_window 49 = .ok (.invokestatic 48, 3) := by decide +kernel
theorem dX7_window_52 : decode cX7_window 52 = .ok (.aload_n 0, 1) := by decide +kernel
theorem dX7_window_53 : decode cX7_window 53 = .ok (.getfield 21, 3) := by decide +kernel
theorem dX7_window_56 : decode cX7_window 56 = .ok (.iload_n 1, 1) := by decide +kernel
theorem dX7_window_57 : decode cX7_window 57 = .ok (.iload_n 2, 1) := by decide +kernel
theorem dX7_window_58 : decode cX7_window 58 = .ok (.invokevirtual 80, 3) := by decide +kernel
theorem dX7_window_61 : decode cX7_window 61 = .ok (.aload_n 0, 1) := by decide +kernel
theorem dX7_window_62 : decode cX7_window 62 = .ok (.getfield 21, 3) := by decide +kernel
theorem dX7_window_65 : decode cX7_window 65 = .ok (.getfield 79, 3) := by decide +kernel
theorem dX7_window_68 : decode cX7_window 68 = .ok (.ireturn, 1) := by decide +kernel
theorem dX7_channel_0 : decode cX7_channel 0 = .ok (.iload_n 1, 1) := by decide +kernel
theorem dX7_channel_1 : decode cX7_channel 1 = .ok (.invokestatic 84, 3) := by decide +kernel
theorem dX7_channel_4 : decode cX7_channel 4 = .ok (.ifCond .eq 37, 3) := by decide +kernel
theorem dX7_channel_7 : decode cX7_channel 7 = .ok (.iload_n 2, 1) := by decide +kernel
theorem dX7_channel_8 : decode cX7_channel 8 = .ok (.iconst (-1), 1) := by decide +kernel
theorem dX7_channel_9 : decode cX7_channel 9 = .ok (.iconst 3, 1) := by decide +kernel
theorem dX7_channel_10 : decode cX7_channel 10 = .ok (.invokestatic 40, 3) := by decide +kernel
theorem dX7_channel_13 : decode cX7_channel 13 = .ok (.ifCond .eq 28, 3) := by decide +kernel
theorem dX7_channel_16 : decode cX7_channel 16 = .ok (.iload_n 3, 1) := by decide +kernel
theorem dX7_channel_17 : decode cX7_channel 17 = .ok (.iconst 0, 1) := by decide +kernel
theorem dX7_channel_18 : decode cX7_channel 18 = .ok (.bipush 15, 2) := by decide +kernel
theorem dX7_channel_20 : decode cX7_channel 20 = .ok (.invokestatic 40, 3) := by decide +kernel
theorem dX7_channel_23 : decode cX7_channel 23 = .ok (.ifCond .eq 18, 3) := by decide +kernel
theorem dX7_channel_26 : decode cX7_channel 26 = .ok (.iload 4, 2) := by decide +kernel
theorem dX7_channel_28 : decode cX7_channel 28 = .ok (.iconst 1, 1) := by decide +kernel
theorem dX7_channel_29 : decode cX7_channel 29 = .ok (.bipush 100, 2) := by decide +kernel
theorem dX7_channel_31 : decode cX7_channel 31 = .ok (.invokestatic 40, 3) := by decide +kernel
theorem dX7_channel_34 : decode cX7_channel 34 = .ok (.ifCond .eq 7, 3) := by decide +kernel
theorem dX7_channel_37 : decode cX7_channel 37 = .ok (.iconst 1, 1) := by decide +kernel
theorem dX7_channel_38 : decode cX7_channel 38 = .ok (.goto 4, 3) := by decide +kernel
theorem dX7_channel_41 : decode cX7_channel 41 = .ok (.iconst 0, 1) := by decide +kernel
theorem dX7_channel_42 : decode cX7_channel 42 = .ok (.invokestatic 44, 3) := by decide +kernel
theorem dX7_channel_45 : decode cX7_channel 45 = .ok (.aload_n 0, 1) := by decide +kernel
theorem dX7_channel_46 : decode cX7_channel 46 = .ok (.getfield 25, 3) := by decide +kernel
theorem dX7_channel_49 : decode cX7_channel 49 = .ok (.ifCond .ne 7, 3) := by decide +kernel
theorem dX7_channel_52 : decode cX7_channel 52 = .ok (.iconst 1, 1) := by decide +kernel
theorem dX7_channel_53 : decode cX7_channel 53 = .ok (.goto 4, 3) := by decide +kernel
theorem dX7_channel_56 : decode cX7_channel 56 = .ok (.iconst 0, 1) := by decide +kernel
theorem dX7_channel_57 : decode cX7_channel 57 = .ok (.invokestatic 48, 3) := by decide +kernel
theorem dX7_channel_60 : decode cX7_channel 60 = .ok (.aload_n 0, 1) := by decide +kernel
theorem dX7_channel_61 : decode cX7_channel 61 = .ok (.getfield 12, 3) := by decide +kernel
theorem dX7_channel_64 : decode cX7_channel 64 = .ok (.getfield 87, 3) := by decide +kernel
theorem dX7_channel_67 : decode cX7_channel 67 = .ok (.iload_n 1, 1) := by decide +kernel
theorem dX7_channel_68 : decode cX7_channel 68 = .ok (.aaload, 1) := by decide +kernel
theorem dX7_channel_69 : decode cX7_channel 69 = .ok (.astore 5, 2) := by decide +kernel
theorem dX7_channel_71 : decode cX7_channel 71 = .ok (.aload 5, 2) := by decide +kernel
theorem dX7_channel_73 : decode cX7_channel 73 = .ok (.iload_n 2, 1) := by decide +kernel
theorem dX7_channel_74 : decode cX7_channel 74 = .ok (.putfield 91, 3) := by decide +kernel
theorem dX7_channel_77 : decode cX7_channel 77 = .ok (.aload 5, 2) := by decide +kernel
theorem dX7_channel_79 : decode cX7_channel 79 = .ok (.iload_n 3, 1) := by decide +kernel
theorem dX7_channel_80 : decode cX7_channel 80 = .ok (.putfield 96, 3) := by decide +kernel
theorem dX7_channel_83 : decode cX7_channel 83 = .ok (.aload 5, 2) := by decide +kernel
theorem dX7_channel_85 : decode cX7_channel 85 = .ok (.iload 4, 2) := by decide +kernel
theorem dX7_channel_87 : decode cX7_channel 87 = .ok (.putfield 99, 3) := by decide +kernel
theorem dX7_channel_90 : decode cX7_channel 90 = .ok (.return_, 1) := by decide +kernel
theorem dX7_boot_0 : decode cX7_boot 0 = .ok (.aload_n 0, 1) := by decide +kernel
theorem dX7_boot_1 : decode cX7_boot 1 = .ok (.getfield 25, 3) := by decide +kernel
theorem dX7_boot_4 : decode cX7_boot 4 = .ok (.ifCond .ne 17, 3) := by decide +kernel
theorem dX7_boot_7 : decode cX7_boot 7 = .ok (.aload_n 0, 1) := by decide +kernel
theorem dX7_boot_8 : decode cX7_boot 8 = .ok (.getfield 21, 3) := by decide +kernel
theorem dX7_boot_11 : decode cX7_boot 11 = .ok (.getfield 79, 3) := by decide +kernel
theorem dX7_boot_14 : decode cX7_boot 14 = .ok (.ifCond .le 7, 3) := by decide +kernel
theorem dX7_boot_17 : decode cX7_boot 17 = .ok (.iconst 1, 1) := by decide +kernel
theorem dX7_boot_18 : decode cX7_boot 18 = .ok (.goto 4, 3) := by decide +kernel
theorem dX7_boot_21 : decode cX7_boot 21 = .ok (.iconst 0, 1) := by decide +kernel
theorem dX7_boot_22 : decode cX7_boot 22 = .ok (.invokestatic 48, 3) := by decide +kernel
theorem dX7_boot_25 : decode cX7_boot 25 = .ok (.aload_n 0, 1) := by decide +kernel
theorem dX7_boot_26 : decode cX7_boot 26 = .ok (.aload_n 0, 1) := by decide +kernel
theorem dX7_boot_27 : decode cX7_boot 27 = .ok (.getfield 12, 3) := by decide +kernel
theorem dX7_boot_30 : decode cX7_boot 30 = .ok (.invokevirtual 102, 3) := by decide +kernel
theorem dX7_boot_33 : decode cX7_boot 33 = .ok (.putfield 33, 3) := by decide +kernel
theorem dX7_boot_36 : decode cX7_boot 36 = .ok (.aload_n 0, 1) := by decide +kernel
theorem dX7_boot_37 : decode cX7_boot 37 = .ok (.getfield 21, 3) := by decide +kernel
theorem dX7_boot_40 : decode cX7_boot 40 = .ok (.invokevirtual 106, 3) := by decide +kernel
theorem dX7_boot_43 : decode cX7_boot 43 = .ok (.aload_n 0, 1) := by decide +kernel
theorem dX7_boot_44 : decode cX7_boot 44 = .ok (.iconst 1, 1) := by decide +kernel
theorem dX7_boot_45 : decode cX7_boot 45 = .ok (.putfield 25, 3) := by decide +kernel
theorem dX7_boot_48 : decode cX7_boot 48 = .ok (.aload_n 0, 1) := by decide +kernel
theorem dX7_boot_49 : decode cX7_boot 49 = .ok (.dup, 1) := by decide +kernel
theorem dX7_boot_50 : decode cX7_boot 50 = .ok (.getfield 29, 3) := by decide +kernel
theorem dX7_boot_53 : decode cX7_boot 53 = .ok (.iconst 1, 1) := by decide +kernel
theorem dX7_boot_54 : decode cX7_boot 54 = .ok (.iadd, 1) := by decide +kernel
theorem dX7_boot_55 : decode cX7_boot 55 = .ok (.putfield 29, 3) := by decide +kernel
theorem dX7_boot_58 : decode cX7_boot 58 = .ok (.aload_n 0, 1) := by decide +kernel
theorem dX7_boot_59 : decode cX7_boot 59 = .ok (.getfield 33, 3) := by decide +kernel
theorem dX7_boot_62 : decode cX7_boot 62 = .ok (.ireturn, 1) := by decide +kernel
theorem dX7_reset_0 : decode cX7_reset 0 = .ok (.aload_n 0, 1) := by decide +kernel
theorem dX7_reset_1 : decode cX7_reset 1 = .ok (.getfield 25, 3) := by decide +kernel
theorem dX7_reset_4 : decode cX7_reset 4 = .ok (.invokestatic 48, 3) := by decide +kernel
theorem dX7_reset_7 : decode cX7_reset 7 = .ok (.aload_n 0, 1) := by decide +kernel
theorem dX7_reset_8 : decode cX7_reset 8 = .ok (.iconst 0, 1) := by decide +kernel
theorem dX7_reset_9 : decode cX7_reset 9 = .ok (.putfield 25, 3) := by decide +kernel
theorem dX7_reset_12 : decode cX7_reset 12 = .ok (.return_, 1) := by decide +kernel
theorem dX7_run_0 : decode cX7_run 0 = .ok (.iload_n 1, 1) := by decide +kernel
theorem dX7_run_1 : decode cX7_run 1 = .ok (.iconst 1, 1) := by decide +kernel
theorem dX7_run_2 : decode cX7_run 2 = .ok (.sipush 400, 3) := by decide +kernel
theorem dX7_run_5 : decode cX7_run 5 = .ok (.invokestatic 40, 3) := by decide +kernel
theorem dX7_run_8 : decode cX7_run 8 = .ok (.invokestatic 44, 3) := by decide +kernel
theorem dX7_run_11 : decode cX7_run 11 = .ok (.aload_n 0, 1) := by decide +kernel
theorem dX7_run_12 : decode cX7_run 12 = .ok (.getfield 25, 3) := by decide +kernel
theorem dX7_run_15 : decode cX7_run 15 = .ok (.invokestatic 48, 3) := by decide +kernel
theorem dX7_run_18 : decode cX7_run 18 = .ok (.iconst 0, 1) := by decide +kernel
theorem dX7_run_19 : decode cX7_run 19 = .ok (.istore_n 2, 1) := by decide +kernel
theorem dX7_run_20 : decode cX7_run 20 = .ok (.iconst 0, 1) := by decide +kernel
theorem dX7_run_21 : decode cX7_run 21 = .ok (.istore_n 3, 1) := by decide +kernel
theorem dX7_run_22 : decode cX7_run 22 = .ok (.iload_n 3, 1) := by decide +kernel
theorem dX7_run_23 : decode cX7_run 23 = .ok (.iload_n 1, 1) := by decide +kernel
theorem dX7_run_24 : decode cX7_run 24 = .ok (.if_icmp .ge 19, 3) := by decide +kernel
theorem dX7_run_27 : decode cX7_run 27 = .ok (.aload_n 0, 1) := by decide +kernel
theorem dX7_run_28 : decode cX7_run 28 = .ok (.invokevirtual 108, 3) := by decide +kernel
theorem dX7_run_31 : decode cX7_run 31 = .ok (.ifCond .eq 6, 3) := by decide +kernel
theorem dX7_run_34 : decode cX7_run 34 = .ok (.iinc 2 1, 3) := by decide +kernel
theorem dX7_run_37 : decode cX7_run 37 = .ok (.iinc 3 1, 3) := by decide +kernel
theorem dX7_run_40 : decode cX7_run 40 = .ok (.goto (-18), 3) := by decide +kernel
theorem dX7_run_43 : decode cX7_run 43 = .ok (.iload_n 2, 1) := by decide +kernel
theorem dX7_run_44 : decode cX7_run 44 = .ok (.ireturn, 1) := by decide +kernel
theorem dX7_quote_0 : decode cX7_quote 0 = .ok (.aload_n 0, 1) := by decide +kernel
theorem dX7_quote_1 : decode cX7_quote 1 = .ok (.getfield 25, 3) := by decide +kernel
theorem dX7_quote_4 : decode cX7_quote 4 = .ok (.invokestatic 48, 3) := by decide +kernel
theorem dX7_quote_7 : decode cX7_quote 7 = .ok (.aload_n 0, 1) := by decide +kernel
theorem dX7_quote_8 : decode cX7_quote 8 = .ok (.getfield 12, 3) := by decide +kernel
theorem dX7_quote_11 : decode cX7_quote 11 = .ok (.getfield 112, 3) := by decide +kernel
theorem dX7_quote_14 : decode cX7_quote 14 = .ok (.iload_n 1, 1) := by decide +kernel
theorem dX7_quote_15 : decode cX7_quote 15 = .ok (.invokestatic 115, 3) := by decide +kernel
theorem dX7_quote_18 : decode cX7_quote 18 = .ok (.aload_n 0, 1) := by decide +kernel
theorem dX7_quote_19 : decode cX7_quote 19 = .ok (.getfield 33, 3) := by decide +kernel
theorem dX7_quote_22 : decode cX7_quote 22 = .ok (.invokestatic 115, 3) := by decide +kernel
theorem dX7_quote_25 : decode cX7_quote 25 = .ok (.ireturn, 1) := by decide +kernel
theorem dX7_register_0 : decode cX7_register 0 = .ok (.iload_n 1, 1) := by decide +kernel
theorem dX7_register_1 : decode cX7_register 1 = .ok (.invokestatic 36, 3) := by decide +kernel
theorem dX7_register_4 : decode cX7_register 4 = .ok (.ifCond .eq 17, 3) := by decide +kernel
theorem dX7_register_7 : decode cX7_register 7 = .ok (.iload_n 2, 1) := by decide +kernel
theorem dX7_register_8 : decode cX7_register 8 = .ok (.iconst 0, 1) := by decide +kernel
theorem dX7_register_9 : decode cX7_register 9 = .ok (.bipush 16, 2) := by decide +kernel
theorem dX7_register_11 : decode cX7_register 11 = .ok (.invokestatic 40, 3) := by decide +kernel
theorem dX7_register_14 : decode cX7_register 14 = .ok (.ifCond .eq 7, 3) := by decide +kernel
theorem dX7_register_17 : decode cX7_register 17 = .ok (.iconst 1, 1) := by decide +kernel
theorem dX7_register_18 : decode cX7_register 18 = .ok (.goto 4, 3) := by decide +kernel
theorem dX7_register_21 : decode cX7_register 21 = .ok (.iconst 0, 1) := by decide +kernel
theorem dX7_register_22 : decode cX7_register 22 = .ok (.invokestatic 44, 3) := by decide +kernel
theorem dX7_register_25 : decode cX7_register 25 = .ok (.aload_n 0, 1) := by decide +kernel
theorem dX7_register_26 : decode cX7_register 26 = .ok (.getfield 25, 3) := by decide +kernel
theorem dX7_register_29 : decode cX7_register 29 = .ok (.invokestatic 48, 3) := by decide +kernel
theorem dX7_register_32 : decode cX7_register 32 = .ok (.aload_n 0, 1) := by decide +kernel
theorem dX7_register_33 : decode cX7_register 33 = .ok (.getfield 12, 3) := by decide +kernel
theorem dX7_register_36 : decode cX7_register 36 = .ok (.getfield 57, 3) := by decide +kernel
theorem dX7_register_39 : decode cX7_register 39 = .ok (.iload_n 1, 1) := by decide +kernel
theorem dX7_register_40 : decode cX7_register 40 = .ok (.aaload, 1) := by decide +kernel
theorem dX7_register_41 : decode cX7_register 41 = .ok (.astore_n 3, 1) := by decide +kernel
theorem dX7_register_42 : decode cX7_register 42 = .ok (.iload_n 2, 1) := by decide +kernel
theorem dX7_register_43 : decode cX7_register 43 = .ok (.bipush 16, 2) := by decide +kernel
theorem dX7_register_45 : decode cX7_register 45 = .ok (.if_icmp .ne 10, 3) := by decide +kernel
theorem dX7_register_48 : decode cX7_register 48 = .ok (.aload_n 3, 1) := by decide +kernel
theorem dX7_register_49 : decode cX7_register 49 = .ok (.getfield 119, 3) := by decide +kernel
theorem dX7_register_52 : decode cX7_register 52 = .ok (.goto 8, 3) := by decide +kernel
theorem dX7_register_55 : decode cX7_register 55 = .ok (.aload_n 3, 1) := by decide +kernel
theorem dX7_register_56 : decode cX7_register 56 = .ok (.iload_n 2, 1) := by decide +kernel
theorem dX7_register_57 : decode cX7_register 57 = .ok (.invokevirtual 122, 3) := by decide +kernel
theorem dX7_register_60 : decode cX7_register 60 = .ok (.ireturn, 1) := by decide +kernel
theorem dX7_memory_0 : decode cX7_memory 0 = .ok (.iload_n 1, 1) := by decide +kernel
theorem dX7_memory_1 : decode cX7_memory 1 = .ok (.invokestatic 69, 3) := by decide +kernel
theorem dX7_memory_4 : decode cX7_memory 4 = .ok (.invokestatic 44, 3) := by decide +kernel
theorem dX7_memory_7 : decode cX7_memory 7 = .ok (.aload_n 0, 1) := by decide +kernel
theorem dX7_memory_8 : decode cX7_memory 8 = .ok (.getfield 12, 3) := by decide +kernel
theorem dX7_memory_11 : decode cX7_memory 11 = .ok (.getfield 72, 3) := by decide +kernel
theorem dX7_memory_14 : decode cX7_memory 14 = .ok (.iload_n 1, 1) := by decide +kernel
theorem dX7_memory_15 : decode cX7_memory 15 = .ok (.iaload, 1) := by decide +kernel
theorem dX7_memory_16 : decode cX7_memory 16 = .ok (.ireturn, 1) := by decide +kernel
theorem dX7_told_0 : decode cX7_told 0 = .ok (.iload_n 1, 1) := by decide +kernel
theorem dX7_told_1 : decode cX7_told 1 = .ok (.invokestatic 36, 3) := by decide +kernel
theorem dX7_told_4 : decode cX7_told 4 = .ok (.ifCond .eq 17, 3) := by decide +kernel
theorem dX7_told_7 : decode cX7_told 7 = .ok (.iload_n 2, 1) := by decide +kernel
theorem dX7_told_8 : decode cX7_told 8 = .ok (.iconst 0, 1) := by decide +kernel
theorem dX7_told_9 : decode cX7_told 9 = .ok (.bipush 8, 2) := by decide +kernel
theorem dX7_told_11 : decode cX7_told 11 = .ok (.invokestatic 40, 3) := by decide +kernel
theorem dX7_told_14 : decode cX7_told 14 = .ok (.ifCond .eq 7, 3) := by decide +kernel
theorem dX7_told_17 : decode cX7_told 17 = .ok (.iconst 1, 1) := by decide +kernel
theorem dX7_told_18 : decode cX7_told 18 = .ok (.goto 4, 3) := by decide +kernel
theorem dX7_told_21 : decode cX7_told 21 = .ok (.iconst 0, 1) := by decide +kernel
theorem dX7_told_22 : decode cX7_told 22 = .ok (.invokestatic 44, 3) := by decide +kernel
theorem dX7_told_25 : decode cX7_told 25 = .ok (.aload_n 0, 1) := by decide +kernel
theorem dX7_told_26 : decode cX7_told 26 = .ok (.getfield 12, 3) := by decide +kernel
theorem dX7_told_29 : decode cX7_told 29 = .ok (.getfield 57, 3) := by decide +kernel
theorem dX7_told_32 : decode cX7_told 32 = .ok (.iload_n 1, 1) := by decide +kernel
theorem dX7_told_33 : decode cX7_told 33 = .ok (.aaload, 1) := by decide +kernel
theorem dX7_told_34 : decode cX7_told 34 = .ok (.astore_n 3, 1) := by decide +kernel
theorem dX7_told_35 : decode cX7_told 35 = .ok (.iload_n 2, 1) := by decide +kernel
theorem dX7_told_36 : decode cX7_told 36 = .ok (.tableswitch 43 6 8 #[28, 33, 38], 28) := by decide +kernel
theorem dX7_told_64 : decode cX7_told 64 = .ok (.aload_n 3, 1) := by decide +kernel
theorem dX7_told_65 : decode cX7_told 65 = .ok (.getfield 76, 3) := by decide +kernel
theorem dX7_told_68 : decode cX7_told 68 = .ok (.ireturn, 1) := by decide +kernel
theorem dX7_told_69 : decode cX7_told 69 = .ok (.aload_n 3, 1) := by decide +kernel
theorem dX7_told_70 : decode cX7_told 70 = .ok (.getfield 61, 3) := by decide +kernel
theorem dX7_told_73 : decode cX7_told 73 = .ok (.ireturn, 1) := by decide +kernel
theorem dX7_told_74 : decode cX7_told 74 = .ok (.aload_n 3, 1) := by decide +kernel
theorem dX7_told_75 : decode cX7_told 75 = .ok (.getfield 66, 3) := by decide +kernel
theorem dX7_told_78 : decode cX7_told 78 = .ok (.ireturn, 1) := by decide +kernel
theorem dX7_told_79 : decode cX7_told 79 = .ok (.aload_n 0, 1) := by decide +kernel
theorem dX7_told_80 : decode cX7_told 80 = .ok (.getfield 25, 3) := by decide +kernel
theorem dX7_told_83 : decode cX7_told 83 = .ok (.ifCond .eq 11, 3) := by decide +kernel
theorem dX7_told_86 : decode cX7_told 86 = .ok (.aload_n 3, 1) := by decide +kernel
theorem dX7_told_87 : decode cX7_told 87 = .ok (.iload_n 2, 1) := by decide +kernel
theorem dX7_told_88 : decode cX7_told 88 = .ok (.invokevirtual 126, 3) := by decide +kernel
theorem dX7_told_91 : decode cX7_told 91 = .ok (.goto 4, 3) := by decide +kernel
theorem dX7_told_94 : decode cX7_told 94 = .ok (.iconst 0, 1) := by decide +kernel
theorem dX7_told_95 : decode cX7_told 95 = .ok (.ireturn, 1) := by decide +kernel
theorem dX7_object_0 : decode cX7_object 0 = .ok (.iload_n 1, 1) := by decide +kernel
theorem dX7_object_1 : decode cX7_object 1 = .ok (.invokestatic 84, 3) := by decide +kernel
theorem dX7_object_4 : decode cX7_object 4 = .ok (.ifCond .eq 16, 3) := by decide +kernel
theorem dX7_object_7 : decode cX7_object 7 = .ok (.iload_n 2, 1) := by decide +kernel
theorem dX7_object_8 : decode cX7_object 8 = .ok (.iconst 0, 1) := by decide +kernel
theorem dX7_object_9 : decode cX7_object 9 = .ok (.iconst 3, 1) := by decide +kernel
theorem dX7_object_10 : decode cX7_object 10 = .ok (.invokestatic 40, 3) := by decide +kernel
theorem dX7_object_13 : decode cX7_object 13 = .ok (.ifCond .eq 7, 3) := by decide +kernel
theorem dX7_object_16 : decode cX7_object 16 = .ok (.iconst 1, 1) := by decide +kernel
theorem dX7_object_17 : decode cX7_object 17 = .ok (.goto 4, 3) := by decide +kernel
theorem dX7_object_20 : decode cX7_object 20 = .ok (.iconst 0, 1) := by decide +kernel
theorem dX7_object_21 : decode cX7_object 21 = .ok (.invokestatic 44, 3) := by decide +kernel
theorem dX7_object_24 : decode cX7_object 24 = .ok (.iload_n 2, 1) := by decide +kernel
theorem dX7_object_25 : decode cX7_object 25 = .ok (.tableswitch 66 0 2 #[27, 40, 53], 27) := by decide +kernel
theorem dX7_object_52 : decode cX7_object 52 = .ok (.aload_n 0, 1) := by decide +kernel
theorem dX7_object_53 : decode cX7_object 53 = .ok (.getfield 12, 3) := by decide +kernel
theorem dX7_object_56 : decode cX7_object 56 = .ok (.getfield 87, 3) := by decide +kernel
theorem dX7_object_59 : decode cX7_object 59 = .ok (.iload_n 1, 1) := by decide +kernel
theorem dX7_object_60 : decode cX7_object 60 = .ok (.aaload, 1) := by decide +kernel
theorem dX7_object_61 : decode cX7_object 61 = .ok (.invokevirtual 129, 3) := by decide +kernel
theorem dX7_object_64 : decode cX7_object 64 = .ok (.ireturn, 1) := by decide +kernel
theorem dX7_object_65 : decode cX7_object 65 = .ok (.aload_n 0, 1) := by decide +kernel
theorem dX7_object_66 : decode cX7_object 66 = .ok (.getfield 12, 3) := by decide +kernel
theorem dX7_object_69 : decode cX7_object 69 = .ok (.getfield 87, 3) := by decide +kernel
theorem dX7_object_72 : decode cX7_object 72 = .ok (.iload_n 1, 1) := by decide +kernel
theorem dX7_object_73 : decode cX7_object 73 = .ok (.aaload, 1) := by decide +kernel
theorem dX7_object_74 : decode cX7_object 74 = .ok (.invokevirtual 132, 3) := by decide +kernel
theorem dX7_object_77 : decode cX7_object 77 = .ok (.ireturn, 1) := by decide +kernel
theorem dX7_object_78 : decode cX7_object 78 = .ok (.aload_n 0, 1) := by decide +kernel
theorem dX7_object_79 : decode cX7_object 79 = .ok (.getfield 12, 3) := by decide +kernel
theorem dX7_object_82 : decode cX7_object 82 = .ok (.getfield 135, 3) := by decide +kernel
theorem dX7_object_85 : decode cX7_object 85 = .ok (.iload_n 1, 1) := by decide +kernel
theorem dX7_object_86 : decode cX7_object 86 = .ok (.aaload, 1) := by decide +kernel
theorem dX7_object_87 : decode cX7_object 87 = .ok (.getfield 139, 3) := by decide +kernel
theorem dX7_object_90 : decode cX7_object 90 = .ok (.ireturn, 1) := by decide +kernel
theorem dX7_object_91 : decode cX7_object 91 = .ok (.aload_n 0, 1) := by decide +kernel
theorem dX7_object_92 : decode cX7_object 92 = .ok (.getfield 12, 3) := by decide +kernel
theorem dX7_object_95 : decode cX7_object 95 = .ok (.getfield 135, 3) := by decide +kernel
theorem dX7_object_98 : decode cX7_object 98 = .ok (.iload_n 1, 1) := by decide +kernel
theorem dX7_object_99 : decode cX7_object 99 = .ok (.aaload, 1) := by decide +kernel
theorem dX7_object_100 : decode cX7_object 100 = .ok (.getfield 144, 3) := by decide +kernel
theorem dX7_object_103 : decode cX7_object 103 = .ok (.ireturn, 1) := by decide +kernel
theorem dX7_count_0 : decode cX7_count 0 = .ok (.iload_n 1, 1) := by decide +kernel
theorem dX7_count_1 : decode cX7_count 1 = .ok (.tableswitch 165 0 7 #[47, 60, 79, 98, 117, 133, 152, 160], 47) := by decide +kernel
theorem dX7_count_48 : decode cX7_count 48 = .ok (.aload_n 0, 1) := by decide +kernel
theorem dX7_count_49 : decode cX7_count 49 = .ok (.getfield 25, 3) := by decide +kernel
theorem dX7_count_52 : decode cX7_count 52 = .ok (.ifCond .eq 7, 3) := by decide +kernel
theorem dX7_count_55 : decode cX7_count 55 = .ok (.iconst 1, 1) := by decide +kernel
theorem dX7_count_56 : decode cX7_count 56 = .ok (.goto 4, 3) := by decide +kernel
theorem dX7_count_59 : decode cX7_count 59 = .ok (.iconst 0, 1) := by decide +kernel
theorem dX7_count_60 : decode cX7_count 60 = .ok (.ireturn, 1) := by decide +kernel
theorem dX7_count_61 : decode cX7_count 61 = .ok (.aload_n 0, 1) := by decide +kernel
theorem dX7_count_62 : decode cX7_count 62 = .ok (.getfield 25, 3) := by decide +kernel
theorem dX7_count_65 : decode cX7_count 65 = .ok (.ifCond .eq 13, 3) := by decide +kernel
theorem dX7_count_68 : decode cX7_count 68 = .ok (.aload_n 0, 1) := by decide +kernel
theorem dX7_count_69 : decode cX7_count 69 = .ok (.getfield 12, 3) := by decide +kernel
theorem dX7_count_72 : decode cX7_count 72 = .ok (.getfield 147, 3) := by decide +kernel
theorem dX7_count_75 : decode cX7_count 75 = .ok (.goto 4, 3) := by decide +kernel
theorem dX7_count_78 : decode cX7_count 78 = .ok (.iconst 0, 1) := by decide +kernel
theorem dX7_count_79 : decode cX7_count 79 = .ok (.ireturn, 1) := by decide +kernel
theorem dX7_count_80 : decode cX7_count 80 = .ok (.aload_n 0, 1) := by decide +kernel
theorem dX7_count_81 : decode cX7_count 81 = .ok (.getfield 25, 3) := by decide +kernel
theorem dX7_count_84 : decode cX7_count 84 = .ok (.ifCond .eq 13, 3) := by decide +kernel
theorem dX7_count_87 : decode cX7_count 87 = .ok (.aload_n 0, 1) := by decide +kernel
theorem dX7_count_88 : decode cX7_count 88 = .ok (.getfield 21, 3) := by decide +kernel
theorem dX7_count_91 : decode cX7_count 91 = .ok (.getfield 150, 3) := by decide +kernel
theorem dX7_count_94 : decode cX7_count 94 = .ok (.goto 4, 3) := by decide +kernel
theorem dX7_count_97 : decode cX7_count 97 = .ok (.iconst 0, 1) := by decide +kernel
theorem dX7_count_98 : decode cX7_count 98 = .ok (.ireturn, 1) := by decide +kernel
theorem dX7_count_99 : decode cX7_count 99 = .ok (.aload_n 0, 1) := by decide +kernel
theorem dX7_count_100 : decode cX7_count 100 = .ok (.getfield 25, 3) := by decide +kernel
theorem dX7_count_103 : decode cX7_count 103 = .ok (.ifCond .eq 13, 3) := by decide +kernel
theorem dX7_count_106 : decode cX7_count 106 = .ok (.aload_n 0, 1) := by decide +kernel
theorem dX7_count_107 : decode cX7_count 107 = .ok (.getfield 21, 3) := by decide +kernel
theorem dX7_count_110 : decode cX7_count 110 = .ok (.getfield 153, 3) := by decide +kernel
theorem dX7_count_113 : decode cX7_count 113 = .ok (.goto 4, 3) := by decide +kernel
theorem dX7_count_116 : decode cX7_count 116 = .ok (.iconst 0, 1) := by decide +kernel
theorem dX7_count_117 : decode cX7_count 117 = .ok (.ireturn, 1) := by decide +kernel
theorem dX7_count_118 : decode cX7_count 118 = .ok (.aload_n 0, 1) := by decide +kernel
theorem dX7_count_119 : decode cX7_count 119 = .ok (.getfield 25, 3) := by decide +kernel
theorem dX7_count_122 : decode cX7_count 122 = .ok (.ifCond .eq 10, 3) := by decide +kernel
theorem dX7_count_125 : decode cX7_count 125 = .ok (.aload_n 0, 1) := by decide +kernel
theorem dX7_count_126 : decode cX7_count 126 = .ok (.getfield 33, 3) := by decide +kernel
theorem dX7_count_129 : decode cX7_count 129 = .ok (.goto 4, 3) := by decide +kernel
theorem dX7_count_132 : decode cX7_count 132 = .ok (.iconst 0, 1) := by decide +kernel
theorem dX7_count_133 : decode cX7_count 133 = .ok (.ireturn, 1) := by decide +kernel
theorem dX7_count_134 : decode cX7_count 134 = .ok (.aload_n 0, 1) := by decide +kernel
theorem dX7_count_135 : decode cX7_count 135 = .ok (.getfield 25, 3) := by decide +kernel
theorem dX7_count_138 : decode cX7_count 138 = .ok (.ifCond .eq 13, 3) := by decide +kernel
theorem dX7_count_141 : decode cX7_count 141 = .ok (.aload_n 0, 1) := by decide +kernel
theorem dX7_count_142 : decode cX7_count 142 = .ok (.getfield 21, 3) := by decide +kernel
theorem dX7_count_145 : decode cX7_count 145 = .ok (.getfield 156, 3) := by decide +kernel
theorem dX7_count_148 : decode cX7_count 148 = .ok (.goto 4, 3) := by decide +kernel
theorem dX7_count_151 : decode cX7_count 151 = .ok (.iconst 0, 1) := by decide +kernel
theorem dX7_count_152 : decode cX7_count 152 = .ok (.ireturn, 1) := by decide +kernel
theorem dX7_count_153 : decode cX7_count 153 = .ok (.aload_n 0, 1) := by decide +kernel
theorem dX7_count_154 : decode cX7_count 154 = .ok (.getfield 21, 3) := by decide +kernel
theorem dX7_count_157 : decode cX7_count 157 = .ok (.getfield 79, 3) := by decide +kernel
theorem dX7_count_160 : decode cX7_count 160 = .ok (.ireturn, 1) := by decide +kernel
theorem dX7_count_161 : decode cX7_count 161 = .ok (.aload_n 0, 1) := by decide +kernel
theorem dX7_count_162 : decode cX7_count 162 = .ok (.getfield 29, 3) := by decide +kernel
theorem dX7_count_165 : decode cX7_count 165 = .ok (.ireturn, 1) := by decide +kernel
theorem dX7_count_166 : decode cX7_count 166 = .ok (.iconst (-1), 1) := by decide +kernel
theorem dX7_count_167 : decode cX7_count 167 = .ok (.ireturn, 1) := by decide +kernel
theorem dX7_tick_0 : decode cX7_tick 0 = .ok (.aload_n 0, 1) := by decide +kernel
theorem dX7_tick_1 : decode cX7_tick 1 = .ok (.getfield 12, 3) := by decide +kernel
theorem dX7_tick_4 : decode cX7_tick 4 = .ok (.dup, 1) := by decide +kernel
theorem dX7_tick_5 : decode cX7_tick 5 = .ok (.getfield 147, 3) := by decide +kernel
theorem dX7_tick_8 : decode cX7_tick 8 = .ok (.iconst 1, 1) := by decide +kernel
theorem dX7_tick_9 : decode cX7_tick 9 = .ok (.iadd, 1) := by decide +kernel
theorem dX7_tick_10 : decode cX7_tick 10 = .ok (.putfield 147, 3) := by decide +kernel
theorem dX7_tick_13 : decode cX7_tick 13 = .ok (.aload_n 0, 1) := by decide +kernel
theorem dX7_tick_14 : decode cX7_tick 14 = .ok (.getfield 12, 3) := by decide +kernel
theorem dX7_tick_17 : decode cX7_tick 17 = .ok (.getfield 57, 3) := by decide +kernel
theorem dX7_tick_20 : decode cX7_tick 20 = .ok (.aload_n 0, 1) := by decide +kernel
theorem dX7_tick_21 : decode cX7_tick 21 = .ok (.getfield 21, 3) := by decide +kernel
theorem dX7_tick_24 : decode cX7_tick 24 = .ok (.invokevirtual 159, 3) := by decide +kernel
theorem dX7_tick_27 : decode cX7_tick 27 = .ok (.aaload, 1) := by decide +kernel
theorem dX7_tick_28 : decode cX7_tick 28 = .ok (.astore_n 1, 1) := by decide +kernel
theorem dX7_tick_29 : decode cX7_tick 29 = .ok (.aload_n 1, 1) := by decide +kernel
theorem dX7_tick_30 : decode cX7_tick 30 = .ok (.getfield 162, 3) := by decide +kernel
theorem dX7_tick_33 : decode cX7_tick 33 = .ok (.ifCond .eq 14, 3) := by decide +kernel
theorem dX7_tick_36 : decode cX7_tick 36 = .ok (.aload_n 1, 1) := by decide +kernel
theorem dX7_tick_37 : decode cX7_tick 37 = .ok (.getfield 165, 3) := by decide +kernel
theorem dX7_tick_40 : decode cX7_tick 40 = .ok (.ifCond .ne 7, 3) := by decide +kernel
theorem dX7_tick_43 : decode cX7_tick 43 = .ok (.iconst 1, 1) := by decide +kernel
theorem dX7_tick_44 : decode cX7_tick 44 = .ok (.goto 4, 3) := by decide +kernel
theorem dX7_tick_47 : decode cX7_tick 47 = .ok (.iconst 0, 1) := by decide +kernel
theorem dX7_tick_48 : decode cX7_tick 48 = .ok (.istore_n 2, 1) := by decide +kernel
theorem dX7_tick_49 : decode cX7_tick 49 = .ok (.iload_n 2, 1) := by decide +kernel
theorem dX7_tick_50 : decode cX7_tick 50 = .ok (.ifCond .eq 11, 3) := by decide +kernel
theorem dX7_tick_53 : decode cX7_tick 53 = .ok (.aload_n 0, 1) := by decide +kernel
theorem dX7_tick_54 : decode cX7_tick 54 = .ok (.getfield 12, 3) := by decide +kernel
theorem dX7_tick_57 : decode cX7_tick 57 = .ok (.aload_n 1, 1) := by decide +kernel
theorem dX7_tick_58 : decode cX7_tick 58 = .ok (.invokevirtual 168, 3) := by decide +kernel
theorem dX7_tick_61 : decode cX7_tick 61 = .ok (.aload_n 0, 1) := by decide +kernel
theorem dX7_tick_62 : decode cX7_tick 62 = .ok (.getfield 21, 3) := by decide +kernel
theorem dX7_tick_65 : decode cX7_tick 65 = .ok (.invokevirtual 172, 3) := by decide +kernel
theorem dX7_tick_68 : decode cX7_tick 68 = .ok (.ifCond .eq 22, 3) := by decide +kernel
theorem dX7_tick_71 : decode cX7_tick 71 = .ok (.aload_n 0, 1) := by decide +kernel
theorem dX7_tick_72 : decode cX7_tick 72 = .ok (.getfield 12, 3) := by decide +kernel
theorem dX7_tick_75 : decode cX7_tick 75 = .ok (.getfield 57, 3) := by decide +kernel
theorem dX7_tick_78 : decode cX7_tick 78 = .ok (.aload_n 0, 1) := by decide +kernel
theorem dX7_tick_79 : decode cX7_tick 79 = .ok (.getfield 21, 3) := by decide +kernel
theorem dX7_tick_82 : decode cX7_tick 82 = .ok (.invokevirtual 159, 3) := by decide +kernel
theorem dX7_tick_85 : decode cX7_tick 85 = .ok (.aaload, 1) := by decide +kernel
theorem dX7_tick_86 : decode cX7_tick 86 = .ok (.iconst 0, 1) := by decide +kernel
theorem dX7_tick_87 : decode cX7_tick 87 = .ok (.putfield 165, 3) := by decide +kernel
theorem dX7_tick_90 : decode cX7_tick 90 = .ok (.iload_n 2, 1) := by decide +kernel
theorem dX7_tick_91 : decode cX7_tick 91 = .ok (.ireturn, 1) := by decide +kernel
theorem dX7_mix_0 : decode cX7_mix 0 = .ok (.iload_n 0, 1) := by decide +kernel
theorem dX7_mix_1 : decode cX7_mix 1 = .ok (.bipush 31, 2) := by decide +kernel
theorem dX7_mix_3 : decode cX7_mix 3 = .ok (.imul, 1) := by decide +kernel
theorem dX7_mix_4 : decode cX7_mix 4 = .ok (.iload_n 1, 1) := by decide +kernel
theorem dX7_mix_5 : decode cX7_mix 5 = .ok (.iadd, 1) := by decide +kernel
theorem dX7_mix_6 : decode cX7_mix 6 = .ok (.ldc 175, 2) := by decide +kernel
theorem dX7_mix_8 : decode cX7_mix 8 = .ok (.imul, 1) := by decide +kernel
theorem dX7_mix_9 : decode cX7_mix 9 = .ok (.istore_n 2, 1) := by decide +kernel
theorem dX7_mix_10 : decode cX7_mix 10 = .ok (.iload_n 2, 1) := by decide +kernel
theorem dX7_mix_11 : decode cX7_mix 11 = .ok (.iload_n 2, 1) := by decide +kernel
theorem dX7_mix_12 : decode cX7_mix 12 = .ok (.bipush 15, 2) := by decide +kernel
theorem dX7_mix_14 : decode cX7_mix 14 = .ok (.iushr, 1) := by decide +kernel
theorem dX7_mix_15 : decode cX7_mix 15 = .ok (.ixor, 1) := by decide +kernel
theorem dX7_mix_16 : decode cX7_mix 16 = .ok (.ireturn, 1) := by decide +kernel
theorem dX7_within_0 : decode cX7_within 0 = .ok (.iload_n 0, 1) := by decide +kernel
theorem dX7_within_1 : decode cX7_within 1 = .ok (.iload_n 1, 1) := by decide +kernel
theorem dX7_within_2 : decode cX7_within 2 = .ok (.if_icmp .lt 12, 3) := by decide +kernel
theorem dX7_within_5 : decode cX7_within 5 = .ok (.iload_n 0, 1) := by decide +kernel
theorem dX7_within_6 : decode cX7_within 6 = .ok (.iload_n 2, 1) := by decide +kernel
theorem dX7_within_7 : decode cX7_within 7 = .ok (.if_icmp .gt 7, 3) := by decide +kernel
theorem dX7_within_10 : decode cX7_within 10 = .ok (.iconst 1, 1) := by decide +kernel
theorem dX7_within_11 : decode cX7_within 11 = .ok (.goto 4, 3) := by decide +kernel
theorem dX7_within_14 : decode cX7_within 14 = .ok (.iconst 0, 1) := by decide +kernel
theorem dX7_within_15 : decode cX7_within 15 = .ok (.ireturn, 1) := by decide +kernel
theorem dX7_isPartition_0 : decode cX7_isPartition 0 = .ok (.iload_n 0, 1) := by decide +kernel
theorem dX7_isPartition_1 : decode cX7_isPartition 1 = .ok (.iconst 0, 1) := by decide +kernel
theorem dX7_isPartition_2 : decode cX7_isPartition 2 = .ok (.iconst 3, 1) := by decide +kernel
theorem dX7_isPartition_3 : decode cX7_isPartition 3 = .ok (.invokestatic 40, 3) := by decide +kernel
theorem dX7_isPartition_6 : decode cX7_isPartition 6 = .ok (.ireturn, 1) := by decide +kernel
theorem dX7_isChannel_0 : decode cX7_isChannel 0 = .ok (.iload_n 0, 1) := by decide +kernel
theorem dX7_isChannel_1 : decode cX7_isChannel 1 = .ok (.iconst 0, 1) := by decide +kernel
theorem dX7_isChannel_2 : decode cX7_isChannel 2 = .ok (.iconst 3, 1) := by decide +kernel
theorem dX7_isChannel_3 : decode cX7_isChannel 3 = .ok (.invokestatic 40, 3) := by decide +kernel
theorem dX7_isChannel_6 : decode cX7_isChannel 6 = .ok (.ireturn, 1) := by decide +kernel
theorem dX7_isWord_0 : decode cX7_isWord 0 = .ok (.iload_n 0, 1) := by decide +kernel
theorem dX7_isWord_1 : decode cX7_isWord 1 = .ok (.iconst 0, 1) := by decide +kernel
theorem dX7_isWord_2 : decode cX7_isWord 2 = .ok (.bipush 95, 2) := by decide +kernel
theorem dX7_isWord_4 : decode cX7_isWord 4 = .ok (.invokestatic 40, 3) := by decide +kernel
theorem dX7_isWord_7 : decode cX7_isWord 7 = .ok (.ireturn, 1) := by decide +kernel
theorem dX7_refuseBadUnless_0 : decode cX7_refuseBadUnless 0 = .ok (.iload_n 0, 1) := by decide +kernel
theorem dX7_refuseBadUnless_1 : decode cX7_refuseBadUnless 1 = .ok (.ifCond .ne 11, 3) := by decide +kernel
theorem dX7_refuseBadUnless_4 : decode cX7_refuseBadUnless 4 = .ok (.new 176, 3) := by decide +kernel
theorem dX7_refuseBadUnless_7 : decode cX7_refuseBadUnless 7 = .ok (.dup, 1) := by decide +kernel
theorem dX7_refuseBadUnless_8 : decode cX7_refuseBadUnless 8 = .ok (.invokespecial 178, 3) := by decide +kernel
theorem dX7_refuseBadUnless_11 : decode cX7_refuseBadUnless 11 = .ok (.athrow, 1) := by decide +kernel
theorem dX7_refuseBadUnless_12 : decode cX7_refuseBadUnless 12 = .ok (.return_, 1) := by decide +kernel
theorem dX7_refuseNowUnless_0 : decode cX7_refuseNowUnless 0 = .ok (.iload_n 0, 1) := by decide +kernel
theorem dX7_refuseNowUnless_1 : decode cX7_refuseNowUnless 1 = .ok (.ifCond .ne 11, 3) := by decide +kernel
theorem dX7_refuseNowUnless_4 : decode cX7_refuseNowUnless 4 = .ok (.new 179, 3) := by decide +kernel
theorem dX7_refuseNowUnless_7 : decode cX7_refuseNowUnless 7 = .ok (.dup, 1) := by decide +kernel
theorem dX7_refuseNowUnless_8 : decode cX7_refuseNowUnless 8 = .ok (.invokespecial 181, 3) := by decide +kernel
theorem dX7_refuseNowUnless_11 : decode cX7_refuseNowUnless 11 = .ok (.athrow, 1) := by decide +kernel
theorem dX7_refuseNowUnless_12 : decode cX7_refuseNowUnless 12 = .ok (.return_, 1) := by decide +kernel
end
section
/-! THE LAYER: a state is a function (cell, place) -> int; the cells' references never change; every row of the kit, said over it. -/
-- the good words of the tables, the nest's words
def gw : List Cond := lw_tbl.filter goodWord
def isNest (w : Cond) : Bool := match w with
  | .fieldLinkNest .. => true
  | .methodLinkNest .. => true
  | .castable .. => true
  | .declares _ => true
  | _ => false
def nw : List Cond := lw_tbl.filter isNest
theorem gw_of {w : Cond} (h : w ∈ lw_tbl) (hg : goodWord w = true) : w ∈ gw := List.mem_filter.mpr ⟨h, hg⟩
theorem nw_of {w : Cond} (h : w ∈ lw_tbl) (hg : isNest w = true) : w ∈ nw := List.mem_filter.mpr ⟨h, hg⟩
/-- which of the thrown classes is none of the others: the catching rows ahead don't take it -/
def Ncz (U : State) : Prop := va_Nc "java/lang/IllegalStateException" "java/lang/IllegalArgumentException" U ∧ va_Nc "java/lang/UnsupportedOperationException" "java/lang/IllegalArgumentException" U ∧ va_Nc "java/lang/UnsupportedOperationException" "java/lang/IllegalStateException" U
def Nz (U : State) : Prop := (∀ w ∈ nw, va_Nw w U) ∧ Ncz U
theorem Ncz.move {s U : State} (hW : s.vm.Alike U.vm) (h : Ncz s) : Ncz U := ⟨h.1.moved hW, h.2.1.moved hW, h.2.2.moved hW⟩
theorem Nz.warm {s U : State} (hW : s.WarmedH U.vm) (h : Nz s) : Nz U := by
  refine ⟨?_, h.2.move hW.alike⟩
  intro w hw
  have h1 := h.1 w hw
  have h2 : isNest w = true := (List.mem_filter.mp hw).2
  cases w <;> first | exact va_Nw.warmF hW h1 | exact va_Nw.warmM hW h1 | exact va_tabs rfl (rfl : (s.setVm U.vm).vm = U.vm) ((Cond.castable_setVm (args := #[]) hW.alike _ _).trans h1) | exact va_tabs rfl (rfl : (s.setVm U.vm).vm = U.vm) ((Cond.declares_setVm (args := #[]) hW.alike _).trans h1) | (simp [isNest] at h2; done)
theorem Nz.same {u U : State} (hv : u.vm = U.vm) (h : Nz u) : Nz U := by
  refine ⟨?_, h.2.move (by rw [hv]; exact Vm.Alike.refl _)⟩
  intro w hw
  have h1 := h.1 w hw
  have h2 : isNest w = true := (List.mem_filter.mp hw).2
  cases w <;> first | exact va_Nw.same rfl hv h1 | (simp [isNest] at h2; done)
theorem gw_good {big : List Cond} (hb : ∀ w ∈ gw, w ∈ big) {y : MethodName} {cc : ByteArray} {n : Nat} {ret : Option FieldType} (h : Cond.code y cc n ret ∈ gw) : GoodIn big (Cond.code y cc n ret :: gw) := by
  intro w hw
  have h1 : w ∈ gw := by
    rcases List.mem_cons.mp hw with rfl | h1
    · exact h
    · exact h1
  exact ⟨hb w h1, good_of_word (List.mem_filter.mp h1).2⟩
-- the state
abbrev St : Type := Nat → Nat → Int32
def upr (σ : St) (i : Nat) (f : Nat → Int32) : St := fun j => if j = i then f else σ j
def up (σ : St) (i k : Nat) (v : Int32) : St := upr σ i (upd (σ i) k v)
def wd (rh : Nat → Nat) (rc : Nat → (Nat → Int32) → va_E) (n : Nat) (σ : St) : va_W := (List.range n).map (fun i => (rh i, rc i (σ i)))
theorem wd_at {rh : Nat → Nat} {rc : Nat → (Nat → Int32) → va_E} {n i : Nat} {σ : St} (h : i < n) : (wd rh rc n σ)[i]? = some (rh i, rc i (σ i)) := by
  simp [wd, h]
theorem wd_set {rh : Nat → Nat} {rc : Nat → (Nat → Int32) → va_E} {n i : Nat} {σ : St} (f : Nat → Int32) : (wd rh rc n σ).set i (rh i, rc i f) = wd rh rc n (upr σ i f) := by
  apply List.ext_getElem?
  intro j
  rw [List.getElem?_set]
  by_cases hj : i = j
  · subst hj
    by_cases hn : i < n
    · simp [wd, upr, hn]
    · simp [wd, hn]
  · have hj' : ¬ j = i := fun h => hj h.symm
    by_cases hn : j < n
    · simp [wd, upr, hj, hj', hn]
    · simp [wd, hj, hn]
theorem wd_A {rh : Nat → Nat} {rc : Nat → (Nat → Int32) → va_E} {n : Nat} {σ σ' : St} {sz q : Nat} (h : va_A (wd rh rc n σ) sz q) : va_A (wd rh rc n σ') sz q := by
  rcases h with ⟨k, e, h⟩ | h
  · refine Or.inl ⟨k, rc k (σ' k), ?_⟩
    by_cases hk : k < n
    · rw [wd_at hk] at h
      rw [wd_at hk]
      have h1 := Option.some.inj h
      rw [← (Prod.mk.inj h1).1]
    · simp [wd, hk] at h
  · exact Or.inr h
-- arithmetic as the machine does it
def ushr (x y : Int32) : Int32 := (x.toUInt32 >>> (y.toUInt32 &&& Int32.toUInt32 31)).toInt32
def shl (x y : Int32) : Int32 := x <<< (y &&& 31)
def sshr (x y : Int32) : Int32 := x >>> (y &&& 31)
-- two statics of Throwable that its constructor reads: where they lie, a reference in each, none of the world's cells
def Sx (n d : String) (A : Nat → Prop) (U : State) (H : Heap) : Prop := ∃ (c : ClassId) (k : Class) (i : Nat) (f : Field) (a : Nat) (cell : Cell) (v : Value), U.vm.findClass Bundle.tN = some c ∧ U.fieldFound? Bundle.tN n d = some (c, k, i, f) ∧ f.isStatic = true ∧ k.statics = some a ∧ H[a]? = some cell ∧ cell.vm.isStatics = true ∧ cell.cls = c ∧ f.slot < cell.slots.size ∧ k.staticTypes[f.slot]? = some f.type ∧ cell.slots[f.slot]? = some v ∧ v.isRef = true ∧ ¬ A a
theorem Sx.move {n d : String} {A B : Nat → Prop} {u U : State} {H H1 : Heap} (h : Sx n d A u H) (hvm : u.vm.Alike U.vm) (hq : ∀ a : Nat, a < H.size → ¬ A a → H1[a]? = H[a]?) (hB : ∀ q, B q → A q) : Sx n d B U H1 := by
  obtain ⟨c, k, i, f, a, cell, v, h1, h2, h3, h4, h5, h6, h7, h8, h9, h10, h11, h12⟩ := h
  obtain ⟨k', hi', he⟩ := State.fieldFound?_setVm hvm h2
  exact ⟨c, k', i, f, a, cell, v, by rw [hvm.findClass]; exact h1, hi', h3, by rw [he]; exact h4, by rw [hq a (Array.getElem?_eq_some_iff.mp h5).1 h12]; exact h5, h6, h7, h8, by rw [he]; exact h9, h10, h11, fun z => h12 (hB _ z)⟩
theorem Sx.lays {n d : String} {A : Nat → Prop} {s : State} {args : Array Value} (h : Sx n d A s s.heap) : (Cond.laysStatic Bundle.tN n d).before args s = true := by
  obtain ⟨c, k, i, f, a, cell, v, h1, h2, h3, h4, h5, h6, h7, h8, h9, -⟩ := h
  exact Cond.laysStatic_of h1 h2 h3 h4 h5 h6 h7 h8 h9
theorem Sx.ref {n d : String} {A : Nat → Prop} {s : State} {args : Array Value} (h : Sx n d A s s.heap) : (Cond.isRef (.static Bundle.tN n d)).before args s = true := by
  obtain ⟨c, k, i, f, a, cell, v, h1, h2, h3, h4, h5, h6, h7, h8, h9, h10, h11, -⟩ := h
  have he : (Term.static Bundle.tN n d).eval args s none [] s = some v := by
    simp [Term.eval, State.fieldNamed?, h2, h3, h4, h5, h6, h10]
  simp only [Cond.before, Cond.holds, Cond.value, he]
  cases v <;> simp_all [Value.isRef]
theorem Sx.of {n d : String} {A : Nat → Prop} {s : State} {args : Array Value} (hl : (Cond.laysStatic Bundle.tN n d).before args s = true) (hr : (Cond.isRef (.static Bundle.tN n d)).before args s = true) (hA : ∀ a : Nat, a < s.heap.size → ¬ A a) : Sx n d A s s.heap := by
  obtain ⟨c, k, i, f, a, cell, h1, h2, h3, h4, h5, h6, h7, h8, h9⟩ := Cond.laysStatic_spec hl
  have he : (Term.static Bundle.tN n d).eval args s none [] s = cell.slots[f.slot]? := by
    simp [Term.eval, State.fieldNamed?, h2, h3, h4, h5, h6]
  obtain ⟨v, hv⟩ : ∃ v, cell.slots[f.slot]? = some v := ⟨_, Array.getElem?_eq_getElem h8⟩
  rw [hv] at he
  have hr2 : v.isRef = true := by
    simp only [Cond.before, Cond.holds, Cond.value, he] at hr
    cases v <;> simp_all [Value.isRef]
  exact ⟨c, k, i, f, a, cell, v, h1, h2, h3, h4, h5, h6, h7, h8, h9, hv, hr2, hA a (Array.getElem?_eq_some_iff.mp h5).1⟩
def Sz (A : Nat → Prop) (U : State) (H : Heap) : Prop := Sx "UNASSIGNED_STACK" Bundle.steD A U H ∧ Sx "SUPPRESSED_SENTINEL" Bundle.listD A U H
theorem Sz.move {A B : Nat → Prop} {u U : State} {H H1 : Heap} (h : Sz A u H) (hvm : u.vm.Alike U.vm) (hq : ∀ a : Nat, a < H.size → ¬ A a → H1[a]? = H[a]?) (hB : ∀ q, B q → A q) : Sz B U H1 := ⟨h.1.move hvm hq hB, h.2.move hvm hq hB⟩
theorem wd_ns {D : va_G} {cl : List vw_C} {rh : Nat → Nat} {rc : Nat → (Nat → Int32) → va_E} {n : Nat} {σ : St} {H : Heap} (hP : va_P D cl (wd rh rc n σ) H) : ∀ q, va_A (wd rh rc n σ) H.size q → ∀ cell, H[q]? = some cell → cell.vm.isStatics = false := by
  intro q h cell hc
  rcases h with ⟨k, e, h⟩ | h
  · have h1 := hP k _ h
    cases e with
    | inl x =>
      have h2 : H[q]? = some (vp_cell x.1 x.2) := h1
      cases Option.some.inj (hc.symm.trans h2)
      obtain ⟨c0, n0, y⟩ := x
      rcases y with f | f | f | f | f <;> rfl
    | inr o =>
      obtain ⟨r, h2, cell2, g1, g2, g3, -⟩ := h1
      cases Option.some.inj (hc.symm.trans g1)
      rw [g3]; rfl
  · have h2 := (Array.getElem?_eq_some_iff.mp hc).1
    exact absurd h2 (Nat.not_lt.mpr h)
-- what holds in a method's body
def Cx (p : Program) (s : State) (m : MethodId) (args : Array Value) (meth : Method) (c : Code) (D : va_G) (tys : List (ClassId × FieldType)) (A : Nat → Prop) (cc : ByteArray) (nL : Nat) (own : String) : Prop :=
  p.tables.exec = Jvm.exec ∧ c.code = cc ∧ c.maxLocals = nL ∧ s.vm.findClass own = some m.cls ∧ (∀ w ∈ gw, w.before args s = true) ∧ va_K D vwCl tys s ∧ Nz s ∧ (∀ q, s.heap.size ≤ q → A q) ∧ meth.locks = false ∧ Sz A s s.heap ∧ ∀ q, A q → ∀ cell, s.heap[q]? = some cell → cell.vm.isStatics = false
def Vz (p : Program) (l : Launch) (e : Env) (R : Room) (s : State) (m : MethodId) (args : Array Value) (below : List Frame) (meth : Method) (c : Code) (D : va_G) (A : Nat → Prop) (nL : Nat) (rh : Nat → Nat) (rc : Nat → (Nat → Int32) → va_E) (n : Nat) (cells slots : Nat) (Q : State → Prop) (pc : Nat) (lv : List (Nat × Value)) (st : List Value) (σ : St) : Prop :=
  ∀ (H : Heap) (locs : List Loc) (ls : Array Slot), va_P D vwCl (wd rh rc n σ) H → va_D A (wd rh rc n σ) → va_S A s.heap H locs → lv_has ls nL lv → W p l e R s m args below meth c H locs cells slots Q (F0 m pc ls st)
section VZROWS
variable {p : Program} {l : Launch} {e : Env} {R : Room} {s : State} {m : MethodId} {args : Array Value} {below : List Frame} {meth : Method} {c : Code} {D : va_G} {tys : List (ClassId × FieldType)} {A : Nat → Prop} {cc : ByteArray} {nL : Nat} {own : String} {rh : Nat → Nat} {rc : Nat → (Nat → Int32) → va_E} {n : Nat} {cells slots : Nat} {Q : State → Prop} {pc : Nat} {lv lv' : List (Nat × Value)} {st : List Value} {σ : St}
theorem v_iconst (X : Cx p s m args meth c D tys A cc nL own) {k : Int} {v : Int32} (d : decode cc pc = .ok (.iconst k, 1)) (hv : Int32.ofInt k = v) (kk : Vz p l e R s m args below meth c D A nL rh rc n cells slots Q (pc + 1) lv (.int v :: st) σ) : Vz p l e R s m args below meth c D A nL rh rc n cells slots Q pc lv st σ :=
  fun H locs ls hP hD hS hl => lv_iconst X.1 X.2.1 d hv (kk H locs ls hP hD hS hl)
theorem v_bipush (X : Cx p s m args meth c D tys A cc nL own) {k : Int} {v : Int32} (d : decode cc pc = .ok (.bipush k, 2)) (hv : (Int8.ofInt k).toInt32 = v) (kk : Vz p l e R s m args below meth c D A nL rh rc n cells slots Q (pc + 2) lv (.int v :: st) σ) : Vz p l e R s m args below meth c D A nL rh rc n cells slots Q pc lv st σ :=
  fun H locs ls hP hD hS hl => lv_bipush X.1 X.2.1 d hv (kk H locs ls hP hD hS hl)
theorem v_sipush (X : Cx p s m args meth c D tys A cc nL own) {k : Int} {v : Int32} (d : decode cc pc = .ok (.sipush k, 3)) (hv : (Int16.ofInt k).toInt32 = v) (kk : Vz p l e R s m args below meth c D A nL rh rc n cells slots Q (pc + 3) lv (.int v :: st) σ) : Vz p l e R s m args below meth c D A nL rh rc n cells slots Q pc lv st σ :=
  fun H locs ls hP hD hS hl => lv_sipush X.1 X.2.1 d hv (kk H locs ls hP hD hS hl)
theorem v_ldc (X : Cx p s m args meth c D tys A cc nL own) {ix : Nat} {v : Int32} (hw : Cond.constant own ix v ∈ gw) (d : decode cc pc = .ok (.ldc ix, 2)) (kk : Vz p l e R s m args below meth c D A nL rh rc n cells slots Q (pc + 2) lv (.int v :: st) σ) : Vz p l e R s m args below meth c D A nL rh rc n cells slots Q pc lv st σ :=
  fun H locs ls hP hD hS hl => lv_ldc X.1 X.2.1 X.2.2.2.1 (X.2.2.2.2.1 _ hw) d (kk H locs ls hP hD hS hl)
theorem v_iload_n (X : Cx p s m args meth c D tys A cc nL own) {k : Fin 4} {i : Nat} {x : Int32} (q : Nat) (d : decode cc pc = .ok (.iload_n k, 1)) (hi : (k : Nat) = i) (hk : lv[q]? = some (i, .int x)) (kk : Vz p l e R s m args below meth c D A nL rh rc n cells slots Q (pc + 1) lv (.int x :: st) σ) : Vz p l e R s m args below meth c D A nL rh rc n cells slots Q pc lv st σ :=
  fun H locs ls hP hD hS hl => lv_iload_n X.1 X.2.1 d hi (lv_at hl q hk) (kk H locs ls hP hD hS hl)
theorem v_iload (X : Cx p s m args meth c D tys A cc nL own) {i : Nat} {x : Int32} (q : Nat) (d : decode cc pc = .ok (.iload i, 2)) (hk : lv[q]? = some (i, .int x)) (kk : Vz p l e R s m args below meth c D A nL rh rc n cells slots Q (pc + 2) lv (.int x :: st) σ) : Vz p l e R s m args below meth c D A nL rh rc n cells slots Q pc lv st σ :=
  fun H locs ls hP hD hS hl => lv_iload X.1 X.2.1 d (lv_at hl q hk) (kk H locs ls hP hD hS hl)
theorem v_aload_n (X : Cx p s m args meth c D tys A cc nL own) {k : Fin 4} {i : Nat} {x : Nat} (q : Nat) (d : decode cc pc = .ok (.aload_n k, 1)) (hi : (k : Nat) = i) (hk : lv[q]? = some (i, .ref x)) (kk : Vz p l e R s m args below meth c D A nL rh rc n cells slots Q (pc + 1) lv (.ref x :: st) σ) : Vz p l e R s m args below meth c D A nL rh rc n cells slots Q pc lv st σ :=
  fun H locs ls hP hD hS hl => lv_aload_n X.1 X.2.1 d hi (lv_at hl q hk) (kk H locs ls hP hD hS hl)
theorem v_aload (X : Cx p s m args meth c D tys A cc nL own) {i : Nat} {x : Nat} (q : Nat) (d : decode cc pc = .ok (.aload i, 2)) (hk : lv[q]? = some (i, .ref x)) (kk : Vz p l e R s m args below meth c D A nL rh rc n cells slots Q (pc + 2) lv (.ref x :: st) σ) : Vz p l e R s m args below meth c D A nL rh rc n cells slots Q pc lv st σ :=
  fun H locs ls hP hD hS hl => lv_aload X.1 X.2.1 d (lv_at hl q hk) (kk H locs ls hP hD hS hl)
theorem v_istore_n (X : Cx p s m args meth c D tys A cc nL own) {k : Fin 4} {i : Nat} {x : Int32} (d : decode cc pc = .ok (.istore_n k, 1)) (hi : (k : Nat) = i) (hn : i < nL) (hl' : (i, Value.int x) :: lv.filter (fun q => !(q.1 == i) && !(q.1 + 1 == i && q.2.category == 2)) = lv') (kk : Vz p l e R s m args below meth c D A nL rh rc n cells slots Q (pc + 1) lv' st σ) : Vz p l e R s m args below meth c D A nL rh rc n cells slots Q pc lv (.int x :: st) σ :=
  fun H locs ls hP hD hS hl => lv_istore_n X.1 X.2.1 d hi hl hn hl' (fun ls' hl2 => kk H locs ls' hP hD hS hl2)
theorem v_istore (X : Cx p s m args meth c D tys A cc nL own) {i : Nat} {x : Int32} (d : decode cc pc = .ok (.istore i, 2)) (hn : i < nL) (hl' : (i, Value.int x) :: lv.filter (fun q => !(q.1 == i) && !(q.1 + 1 == i && q.2.category == 2)) = lv') (kk : Vz p l e R s m args below meth c D A nL rh rc n cells slots Q (pc + 2) lv' st σ) : Vz p l e R s m args below meth c D A nL rh rc n cells slots Q pc lv (.int x :: st) σ :=
  fun H locs ls hP hD hS hl => lv_istore X.1 X.2.1 d hl hn hl' (fun ls' hl2 => kk H locs ls' hP hD hS hl2)
theorem v_astore_n (X : Cx p s m args meth c D tys A cc nL own) {k : Fin 4} {i : Nat} {x : Nat} (d : decode cc pc = .ok (.astore_n k, 1)) (hi : (k : Nat) = i) (hn : i < nL) (hl' : (i, Value.ref x) :: lv.filter (fun q => !(q.1 == i) && !(q.1 + 1 == i && q.2.category == 2)) = lv') (kk : Vz p l e R s m args below meth c D A nL rh rc n cells slots Q (pc + 1) lv' st σ) : Vz p l e R s m args below meth c D A nL rh rc n cells slots Q pc lv (.ref x :: st) σ :=
  fun H locs ls hP hD hS hl => lv_astore_n X.1 X.2.1 d hi hl hn hl' (fun ls' hl2 => kk H locs ls' hP hD hS hl2)
theorem v_astore (X : Cx p s m args meth c D tys A cc nL own) {i : Nat} {x : Nat} (d : decode cc pc = .ok (.astore i, 2)) (hn : i < nL) (hl' : (i, Value.ref x) :: lv.filter (fun q => !(q.1 == i) && !(q.1 + 1 == i && q.2.category == 2)) = lv') (kk : Vz p l e R s m args below meth c D A nL rh rc n cells slots Q (pc + 2) lv' st σ) : Vz p l e R s m args below meth c D A nL rh rc n cells slots Q pc lv (.ref x :: st) σ :=
  fun H locs ls hP hD hS hl => lv_astore X.1 X.2.1 d hl hn hl' (fun ls' hl2 => kk H locs ls' hP hD hS hl2)
theorem v_iinc (X : Cx p s m args meth c D tys A cc nL own) {i : Nat} {k : Int} {x v : Int32} (q : Nat) (d : decode cc pc = .ok (.iinc i k, 3)) (hk : lv[q]? = some (i, .int x)) (hv : x + Int32.ofInt k = v) (hn : i < nL) (hl' : (i, Value.int v) :: lv.filter (fun q => !(q.1 == i) && !(q.1 + 1 == i && q.2.category == 2)) = lv') (kk : Vz p l e R s m args below meth c D A nL rh rc n cells slots Q (pc + 3) lv' st σ) : Vz p l e R s m args below meth c D A nL rh rc n cells slots Q pc lv st σ :=
  fun H locs ls hP hD hS hl => lv_iinc X.1 X.2.1 d hl hk hv hn hl' (fun ls' hl2 => kk H locs ls' hP hD hS hl2)
theorem v_iadd (X : Cx p s m args meth c D tys A cc nL own) {x y : Int32} (d : decode cc pc = .ok (.iadd, 1)) (kk : Vz p l e R s m args below meth c D A nL rh rc n cells slots Q (pc + 1) lv (.int (x + y) :: st) σ) : Vz p l e R s m args below meth c D A nL rh rc n cells slots Q pc lv (.int y :: .int x :: st) σ :=
  fun H locs ls hP hD hS hl => lv_iadd X.1 X.2.1 d (kk H locs ls hP hD hS hl)
theorem v_isub (X : Cx p s m args meth c D tys A cc nL own) {x y : Int32} (d : decode cc pc = .ok (.isub, 1)) (kk : Vz p l e R s m args below meth c D A nL rh rc n cells slots Q (pc + 1) lv (.int (x - y) :: st) σ) : Vz p l e R s m args below meth c D A nL rh rc n cells slots Q pc lv (.int y :: .int x :: st) σ :=
  fun H locs ls hP hD hS hl => lv_isub X.1 X.2.1 d (kk H locs ls hP hD hS hl)
theorem v_imul (X : Cx p s m args meth c D tys A cc nL own) {x y : Int32} (d : decode cc pc = .ok (.imul, 1)) (kk : Vz p l e R s m args below meth c D A nL rh rc n cells slots Q (pc + 1) lv (.int (x * y) :: st) σ) : Vz p l e R s m args below meth c D A nL rh rc n cells slots Q pc lv (.int y :: .int x :: st) σ :=
  fun H locs ls hP hD hS hl => lv_imul X.1 X.2.1 d (kk H locs ls hP hD hS hl)
theorem v_iand (X : Cx p s m args meth c D tys A cc nL own) {x y : Int32} (d : decode cc pc = .ok (.iand, 1)) (kk : Vz p l e R s m args below meth c D A nL rh rc n cells slots Q (pc + 1) lv (.int (x &&& y) :: st) σ) : Vz p l e R s m args below meth c D A nL rh rc n cells slots Q pc lv (.int y :: .int x :: st) σ :=
  fun H locs ls hP hD hS hl => lv_iand X.1 X.2.1 d (kk H locs ls hP hD hS hl)
theorem v_ior (X : Cx p s m args meth c D tys A cc nL own) {x y : Int32} (d : decode cc pc = .ok (.ior, 1)) (kk : Vz p l e R s m args below meth c D A nL rh rc n cells slots Q (pc + 1) lv (.int (x ||| y) :: st) σ) : Vz p l e R s m args below meth c D A nL rh rc n cells slots Q pc lv (.int y :: .int x :: st) σ :=
  fun H locs ls hP hD hS hl => lv_ior X.1 X.2.1 d (kk H locs ls hP hD hS hl)
theorem v_ixor (X : Cx p s m args meth c D tys A cc nL own) {x y : Int32} (d : decode cc pc = .ok (.ixor, 1)) (kk : Vz p l e R s m args below meth c D A nL rh rc n cells slots Q (pc + 1) lv (.int (x ^^^ y) :: st) σ) : Vz p l e R s m args below meth c D A nL rh rc n cells slots Q pc lv (.int y :: .int x :: st) σ :=
  fun H locs ls hP hD hS hl => lv_ixor X.1 X.2.1 d (kk H locs ls hP hD hS hl)
theorem v_ishl (X : Cx p s m args meth c D tys A cc nL own) {x y : Int32} (d : decode cc pc = .ok (.ishl, 1)) (kk : Vz p l e R s m args below meth c D A nL rh rc n cells slots Q (pc + 1) lv (.int (shl x y) :: st) σ) : Vz p l e R s m args below meth c D A nL rh rc n cells slots Q pc lv (.int y :: .int x :: st) σ :=
  fun H locs ls hP hD hS hl => lv_ishl X.1 X.2.1 d (kk H locs ls hP hD hS hl)
theorem v_ishr (X : Cx p s m args meth c D tys A cc nL own) {x y : Int32} (d : decode cc pc = .ok (.ishr, 1)) (kk : Vz p l e R s m args below meth c D A nL rh rc n cells slots Q (pc + 1) lv (.int (sshr x y) :: st) σ) : Vz p l e R s m args below meth c D A nL rh rc n cells slots Q pc lv (.int y :: .int x :: st) σ :=
  fun H locs ls hP hD hS hl => lv_ishr X.1 X.2.1 d (kk H locs ls hP hD hS hl)
theorem v_iushr (X : Cx p s m args meth c D tys A cc nL own) {x y : Int32} (d : decode cc pc = .ok (.iushr, 1)) (kk : Vz p l e R s m args below meth c D A nL rh rc n cells slots Q (pc + 1) lv (.int (ushr x y) :: st) σ) : Vz p l e R s m args below meth c D A nL rh rc n cells slots Q pc lv (.int y :: .int x :: st) σ :=
  fun H locs ls hP hD hS hl => lv_iushr X.1 X.2.1 d rfl (kk H locs ls hP hD hS hl)
theorem v_idiv (X : Cx p s m args meth c D tys A cc nL own) {x y : Int32} (hne : ¬ y = 0) (d : decode cc pc = .ok (.idiv, 1)) (kk : Vz p l e R s m args below meth c D A nL rh rc n cells slots Q (pc + 1) lv (.int (x / y) :: st) σ) : Vz p l e R s m args below meth c D A nL rh rc n cells slots Q pc lv (.int y :: .int x :: st) σ :=
  fun H locs ls hP hD hS hl => lv_idiv X.1 X.2.1 d hne (kk H locs ls hP hD hS hl)
theorem v_irem (X : Cx p s m args meth c D tys A cc nL own) {x y : Int32} (hne : ¬ y = 0) (d : decode cc pc = .ok (.irem, 1)) (kk : Vz p l e R s m args below meth c D A nL rh rc n cells slots Q (pc + 1) lv (.int (x - x / y * y) :: st) σ) : Vz p l e R s m args below meth c D A nL rh rc n cells slots Q pc lv (.int y :: .int x :: st) σ :=
  fun H locs ls hP hD hS hl => lv_irem X.1 X.2.1 d hne (kk H locs ls hP hD hS hl)
theorem v_ineg (X : Cx p s m args meth c D tys A cc nL own) {x : Int32} (d : decode cc pc = .ok (.ineg, 1)) (kk : Vz p l e R s m args below meth c D A nL rh rc n cells slots Q (pc + 1) lv (.int (-x) :: st) σ) : Vz p l e R s m args below meth c D A nL rh rc n cells slots Q pc lv (.int x :: st) σ :=
  fun H locs ls hP hD hS hl => lv_ineg X.1 X.2.1 d (kk H locs ls hP hD hS hl)
theorem v_dup (X : Cx p s m args meth c D tys A cc nL own) {va : Value} (d : decode cc pc = .ok (.dup, 1)) (hv : va.category = 1) (kk : Vz p l e R s m args below meth c D A nL rh rc n cells slots Q (pc + 1) lv (va :: va :: st) σ) : Vz p l e R s m args below meth c D A nL rh rc n cells slots Q pc lv (va :: st) σ :=
  fun H locs ls hP hD hS hl => lv_dup X.1 X.2.1 d hv (kk H locs ls hP hD hS hl)
theorem v_dup2 (X : Cx p s m args meth c D tys A cc nL own) {va vb : Value} (d : decode cc pc = .ok (.dup2, 1)) (hv : va.category = 1) (hw : vb.category = 1) (kk : Vz p l e R s m args below meth c D A nL rh rc n cells slots Q (pc + 1) lv (va :: vb :: va :: vb :: st) σ) : Vz p l e R s m args below meth c D A nL rh rc n cells slots Q pc lv (va :: vb :: st) σ :=
  fun H locs ls hP hD hS hl => lv_dup2_11 X.1 X.2.1 d hv hw (kk H locs ls hP hD hS hl)
theorem v_dup_x1 (X : Cx p s m args meth c D tys A cc nL own) {va vb : Value} (d : decode cc pc = .ok (.dup_x1, 1)) (hv : va.category = 1) (hw : vb.category = 1) (kk : Vz p l e R s m args below meth c D A nL rh rc n cells slots Q (pc + 1) lv (va :: vb :: va :: st) σ) : Vz p l e R s m args below meth c D A nL rh rc n cells slots Q pc lv (va :: vb :: st) σ :=
  fun H locs ls hP hD hS hl => lv_dup_x1 X.1 X.2.1 d hv hw (kk H locs ls hP hD hS hl)
theorem v_dup_x2 (X : Cx p s m args meth c D tys A cc nL own) {va vb vd : Value} (d : decode cc pc = .ok (.dup_x2, 1)) (hv : va.category = 1) (hw : vb.category = 1) (hu : vd.category = 1) (kk : Vz p l e R s m args below meth c D A nL rh rc n cells slots Q (pc + 1) lv (va :: vb :: vd :: va :: st) σ) : Vz p l e R s m args below meth c D A nL rh rc n cells slots Q pc lv (va :: vb :: vd :: st) σ :=
  fun H locs ls hP hD hS hl => lv_dup_x2 X.1 X.2.1 d hv hw hu (kk H locs ls hP hD hS hl)
theorem v_pop (X : Cx p s m args meth c D tys A cc nL own) {va : Value} (d : decode cc pc = .ok (.pop, 1)) (hv : va.category = 1) (kk : Vz p l e R s m args below meth c D A nL rh rc n cells slots Q (pc + 1) lv st σ) : Vz p l e R s m args below meth c D A nL rh rc n cells slots Q pc lv (va :: st) σ :=
  fun H locs ls hP hD hS hl => lv_pop X.1 X.2.1 d hv (kk H locs ls hP hD hS hl)
theorem v_goto (X : Cx p s m args meth c D tys A cc nL own) {off : Int} {tgt : Nat} (d : decode cc pc = .ok (.goto off, 3)) (ht : (pc : Int) + off = (tgt : Int)) (kk : Vz p l e R s m args below meth c D A nL rh rc n cells slots Q tgt lv st σ) : Vz p l e R s m args below meth c D A nL rh rc n cells slots Q pc lv st σ :=
  fun H locs ls hP hD hS hl => lv_goto X.1 X.2.1 d ht (kk H locs ls hP hD hS hl)
theorem v_if_eq (X : Cx p s m args meth c D tys A cc nL own) {x : Int32} {off : Int} (tgt : Nat) (d : decode cc pc = .ok (.ifCond .eq off, 3)) (ht : (pc : Int) + off = (tgt : Int)) (kt : x = 0 → Vz p l e R s m args below meth c D A nL rh rc n cells slots Q tgt lv st σ) (kf : ¬ x = 0 → Vz p l e R s m args below meth c D A nL rh rc n cells slots Q (pc + 3) lv st σ) : Vz p l e R s m args below meth c D A nL rh rc n cells slots Q pc lv (.int x :: st) σ :=
  fun H locs ls hP hD hS hl => lv_if_eq X.1 X.2.1 d ht (fun h => kt h H locs ls hP hD hS hl) (fun h => kf h H locs ls hP hD hS hl)
theorem v_icmp_eq (X : Cx p s m args meth c D tys A cc nL own) {x y : Int32} {off : Int} (tgt : Nat) (d : decode cc pc = .ok (.if_icmp .eq off, 3)) (ht : (pc : Int) + off = (tgt : Int)) (kt : x = y → Vz p l e R s m args below meth c D A nL rh rc n cells slots Q tgt lv st σ) (kf : ¬ x = y → Vz p l e R s m args below meth c D A nL rh rc n cells slots Q (pc + 3) lv st σ) : Vz p l e R s m args below meth c D A nL rh rc n cells slots Q pc lv (.int y :: .int x :: st) σ :=
  fun H locs ls hP hD hS hl => lv_icmp_eq X.1 X.2.1 d ht (fun h => kt h H locs ls hP hD hS hl) (fun h => kf h H locs ls hP hD hS hl)
theorem v_if_ne (X : Cx p s m args meth c D tys A cc nL own) {x : Int32} {off : Int} (tgt : Nat) (d : decode cc pc = .ok (.ifCond .ne off, 3)) (ht : (pc : Int) + off = (tgt : Int)) (kt : ¬ x = 0 → Vz p l e R s m args below meth c D A nL rh rc n cells slots Q tgt lv st σ) (kf : x = 0 → Vz p l e R s m args below meth c D A nL rh rc n cells slots Q (pc + 3) lv st σ) : Vz p l e R s m args below meth c D A nL rh rc n cells slots Q pc lv (.int x :: st) σ :=
  fun H locs ls hP hD hS hl => lv_if_ne X.1 X.2.1 d ht (fun h => kt h H locs ls hP hD hS hl) (fun h => kf h H locs ls hP hD hS hl)
theorem v_icmp_ne (X : Cx p s m args meth c D tys A cc nL own) {x y : Int32} {off : Int} (tgt : Nat) (d : decode cc pc = .ok (.if_icmp .ne off, 3)) (ht : (pc : Int) + off = (tgt : Int)) (kt : ¬ x = y → Vz p l e R s m args below meth c D A nL rh rc n cells slots Q tgt lv st σ) (kf : x = y → Vz p l e R s m args below meth c D A nL rh rc n cells slots Q (pc + 3) lv st σ) : Vz p l e R s m args below meth c D A nL rh rc n cells slots Q pc lv (.int y :: .int x :: st) σ :=
  fun H locs ls hP hD hS hl => lv_icmp_ne X.1 X.2.1 d ht (fun h => kt h H locs ls hP hD hS hl) (fun h => kf h H locs ls hP hD hS hl)
theorem v_if_lt (X : Cx p s m args meth c D tys A cc nL own) {x : Int32} {off : Int} (tgt : Nat) (d : decode cc pc = .ok (.ifCond .lt off, 3)) (ht : (pc : Int) + off = (tgt : Int)) (kt : x < 0 → Vz p l e R s m args below meth c D A nL rh rc n cells slots Q tgt lv st σ) (kf : ¬ x < 0 → Vz p l e R s m args below meth c D A nL rh rc n cells slots Q (pc + 3) lv st σ) : Vz p l e R s m args below meth c D A nL rh rc n cells slots Q pc lv (.int x :: st) σ :=
  fun H locs ls hP hD hS hl => lv_if_lt X.1 X.2.1 d ht (fun h => kt h H locs ls hP hD hS hl) (fun h => kf h H locs ls hP hD hS hl)
theorem v_icmp_lt (X : Cx p s m args meth c D tys A cc nL own) {x y : Int32} {off : Int} (tgt : Nat) (d : decode cc pc = .ok (.if_icmp .lt off, 3)) (ht : (pc : Int) + off = (tgt : Int)) (kt : x < y → Vz p l e R s m args below meth c D A nL rh rc n cells slots Q tgt lv st σ) (kf : ¬ x < y → Vz p l e R s m args below meth c D A nL rh rc n cells slots Q (pc + 3) lv st σ) : Vz p l e R s m args below meth c D A nL rh rc n cells slots Q pc lv (.int y :: .int x :: st) σ :=
  fun H locs ls hP hD hS hl => lv_icmp_lt X.1 X.2.1 d ht (fun h => kt h H locs ls hP hD hS hl) (fun h => kf h H locs ls hP hD hS hl)
theorem v_if_ge (X : Cx p s m args meth c D tys A cc nL own) {x : Int32} {off : Int} (tgt : Nat) (d : decode cc pc = .ok (.ifCond .ge off, 3)) (ht : (pc : Int) + off = (tgt : Int)) (kt : 0 ≤ x → Vz p l e R s m args below meth c D A nL rh rc n cells slots Q tgt lv st σ) (kf : ¬ 0 ≤ x → Vz p l e R s m args below meth c D A nL rh rc n cells slots Q (pc + 3) lv st σ) : Vz p l e R s m args below meth c D A nL rh rc n cells slots Q pc lv (.int x :: st) σ :=
  fun H locs ls hP hD hS hl => lv_if_ge X.1 X.2.1 d ht (fun h => kt h H locs ls hP hD hS hl) (fun h => kf h H locs ls hP hD hS hl)
theorem v_icmp_ge (X : Cx p s m args meth c D tys A cc nL own) {x y : Int32} {off : Int} (tgt : Nat) (d : decode cc pc = .ok (.if_icmp .ge off, 3)) (ht : (pc : Int) + off = (tgt : Int)) (kt : y ≤ x → Vz p l e R s m args below meth c D A nL rh rc n cells slots Q tgt lv st σ) (kf : ¬ y ≤ x → Vz p l e R s m args below meth c D A nL rh rc n cells slots Q (pc + 3) lv st σ) : Vz p l e R s m args below meth c D A nL rh rc n cells slots Q pc lv (.int y :: .int x :: st) σ :=
  fun H locs ls hP hD hS hl => lv_icmp_ge X.1 X.2.1 d ht (fun h => kt h H locs ls hP hD hS hl) (fun h => kf h H locs ls hP hD hS hl)
theorem v_if_gt (X : Cx p s m args meth c D tys A cc nL own) {x : Int32} {off : Int} (tgt : Nat) (d : decode cc pc = .ok (.ifCond .gt off, 3)) (ht : (pc : Int) + off = (tgt : Int)) (kt : 0 < x → Vz p l e R s m args below meth c D A nL rh rc n cells slots Q tgt lv st σ) (kf : ¬ 0 < x → Vz p l e R s m args below meth c D A nL rh rc n cells slots Q (pc + 3) lv st σ) : Vz p l e R s m args below meth c D A nL rh rc n cells slots Q pc lv (.int x :: st) σ :=
  fun H locs ls hP hD hS hl => lv_if_gt X.1 X.2.1 d ht (fun h => kt h H locs ls hP hD hS hl) (fun h => kf h H locs ls hP hD hS hl)
theorem v_icmp_gt (X : Cx p s m args meth c D tys A cc nL own) {x y : Int32} {off : Int} (tgt : Nat) (d : decode cc pc = .ok (.if_icmp .gt off, 3)) (ht : (pc : Int) + off = (tgt : Int)) (kt : y < x → Vz p l e R s m args below meth c D A nL rh rc n cells slots Q tgt lv st σ) (kf : ¬ y < x → Vz p l e R s m args below meth c D A nL rh rc n cells slots Q (pc + 3) lv st σ) : Vz p l e R s m args below meth c D A nL rh rc n cells slots Q pc lv (.int y :: .int x :: st) σ :=
  fun H locs ls hP hD hS hl => lv_icmp_gt X.1 X.2.1 d ht (fun h => kt h H locs ls hP hD hS hl) (fun h => kf h H locs ls hP hD hS hl)
theorem v_if_le (X : Cx p s m args meth c D tys A cc nL own) {x : Int32} {off : Int} (tgt : Nat) (d : decode cc pc = .ok (.ifCond .le off, 3)) (ht : (pc : Int) + off = (tgt : Int)) (kt : x ≤ 0 → Vz p l e R s m args below meth c D A nL rh rc n cells slots Q tgt lv st σ) (kf : ¬ x ≤ 0 → Vz p l e R s m args below meth c D A nL rh rc n cells slots Q (pc + 3) lv st σ) : Vz p l e R s m args below meth c D A nL rh rc n cells slots Q pc lv (.int x :: st) σ :=
  fun H locs ls hP hD hS hl => lv_if_le X.1 X.2.1 d ht (fun h => kt h H locs ls hP hD hS hl) (fun h => kf h H locs ls hP hD hS hl)
theorem v_icmp_le (X : Cx p s m args meth c D tys A cc nL own) {x y : Int32} {off : Int} (tgt : Nat) (d : decode cc pc = .ok (.if_icmp .le off, 3)) (ht : (pc : Int) + off = (tgt : Int)) (kt : x ≤ y → Vz p l e R s m args below meth c D A nL rh rc n cells slots Q tgt lv st σ) (kf : ¬ x ≤ y → Vz p l e R s m args below meth c D A nL rh rc n cells slots Q (pc + 3) lv st σ) : Vz p l e R s m args below meth c D A nL rh rc n cells slots Q pc lv (.int y :: .int x :: st) σ :=
  fun H locs ls hP hD hS hl => lv_icmp_le X.1 X.2.1 d ht (fun h => kt h H locs ls hP hD hS hl) (fun h => kf h H locs ls hP hD hS hl)
theorem v_tswI (X : Cx p s m args meth c D tys A cc nL own) {dflt lo hi : Int} {offs : Array Int} {len : Nat} {x : Int32} {off : Int} (v : Int32) (tgt : Nat) (hx : x = v) (d : decode cc pc = .ok (.tableswitch dflt lo hi offs, len)) (h : (decide (lo ≤ v.toInt) && (decide (v.toInt ≤ hi) && decide (offs[(v.toInt - lo).toNat]? = some off))) = true) (ht : (pc : Int) + off = (tgt : Int)) (kk : Vz p l e R s m args below meth c D A nL rh rc n cells slots Q tgt lv st σ) : Vz p l e R s m args below meth c D A nL rh rc n cells slots Q pc lv (.int x :: st) σ := by
  subst hx
  simp only [Bool.and_eq_true, decide_eq_true_eq] at h
  exact fun H locs ls hP hD hS hl => lv_tableIn X.1 X.2.1 d (by omega) (by omega) h.2.2 ht (kk H locs ls hP hD hS hl)
theorem v_tswO (X : Cx p s m args meth c D tys A cc nL own) {dflt lo hi : Int} {offs : Array Int} {len : Nat} {x : Int32} (tgt : Nat) (d : decode cc pc = .ok (.tableswitch dflt lo hi offs, len)) (h : x.toInt < lo ∨ hi < x.toInt) (ht : (pc : Int) + dflt = (tgt : Int)) (kk : Vz p l e R s m args below meth c D A nL rh rc n cells slots Q tgt lv st σ) : Vz p l e R s m args below meth c D A nL rh rc n cells slots Q pc lv (.int x :: st) σ :=
  fun H locs ls hP hD hS hl => lv_tableOut X.1 X.2.1 d h ht (kk H locs ls hP hD hS hl)
theorem v_lsw (X : Cx p s m args meth c D tys A cc nL own) {dflt : Int} {ps : Array (Int × Int)} {len : Nat} {x : Int32} {off : Int} (tgt : Nat) (d : decode cc pc = .ok (.lookupswitch dflt ps, len)) (hp : (ps.toList.zip (ps.toList.drop 1)).all (fun (a, next) => a.1 < next.1) = true) (ho : Op.lookupswitch.offset ps.toList dflt x.toInt = off) (ht : (pc : Int) + off = (tgt : Int)) (kk : Vz p l e R s m args below meth c D A nL rh rc n cells slots Q tgt lv st σ) : Vz p l e R s m args below meth c D A nL rh rc n cells slots Q pc lv (.int x :: st) σ :=
  fun H locs ls hP hD hS hl => lv_lookup X.1 X.2.1 d hp ho ht (kk H locs ls hP hD hS hl)
theorem v_suff {pc2 : Nat} {lv2 : List (Nat × Value)} {st2 : List Value} {σ2 : St} (kk : Vz p l e R s m args below meth c D A nL rh rc n cells slots Q pc2 lv2 st2 σ2) (h : Vz p l e R s m args below meth c D A nL rh rc n cells slots Q pc2 lv2 st2 σ2 → Vz p l e R s m args below meth c D A nL rh rc n cells slots Q pc lv st σ) : Vz p l e R s m args below meth c D A nL rh rc n cells slots Q pc lv st σ := h kk
theorem v_lv (is : List Nat) (h : lv_pick lv is = lv') (kk : Vz p l e R s m args below meth c D A nL rh rc n cells slots Q pc lv' st σ) : Vz p l e R s m args below meth c D A nL rh rc n cells slots Q pc lv st σ :=
  fun H locs ls hP hD hS hl => kk H locs ls hP hD hS (lv_sub hl is h)
theorem v_getI (X : Cx p s m args meth c D tys A cc nL own) {ci i ix N k : Nat} {C ref : String} {T : u_T} {F : (Nat → Int32) → List Value} (hi : i < n) (hr : ∀ f, rc i f = .inr (ci, F f)) (hc : vwCl[ci]? = some (C, T, N)) (hin : ∀ w ∈ u_ws C T N, w ∈ gw) (hk : k < N) (hw : Cond.fieldLink own ix ref (T k).2.1 (T k).2.2.1 ∈ gw) (hsm : ref = (T k).1) (hv : ∀ f, (F f)[k]? = some (.int (f k))) (d : decode cc pc = .ok (.getfield ix, 3)) (kk : Vz p l e R s m args below meth c D A nL rh rc n cells slots Q (pc + 3) lv (.int (σ i k) :: st) σ) : Vz p l e R s m args below meth c D A nL rh rc n cells slots Q pc lv (.ref (rh i) :: st) σ :=
  fun H locs ls hP hD hS hl => va_get X.1 X.2.1 X.2.2.2.2.1 hin X.2.2.2.1 X.2.2.2.2.2.1 hP i (by rw [wd_at hi, hr]) hc k hk (X.2.2.2.2.1 _ hw) (fun _ h9 => by rw [hsm]; exact h9) (hv (σ i)) d (kk H locs ls hP hD hS hl)
theorem v_getR (X : Cx p s m args meth c D tys A cc nL own) {ci i ix N k : Nat} {C ref : String} {T : u_T} {F : (Nat → Int32) → List Value} {j : Nat} (hi : i < n) (hr : ∀ f, rc i f = .inr (ci, F f)) (hc : vwCl[ci]? = some (C, T, N)) (hin : ∀ w ∈ u_ws C T N, w ∈ gw) (hk : k < N) (hw : Cond.fieldLink own ix ref (T k).2.1 (T k).2.2.1 ∈ gw) (hsm : ref = (T k).1) (hv : ∀ f, (F f)[k]? = some (.ref (rh j))) (d : decode cc pc = .ok (.getfield ix, 3)) (kk : Vz p l e R s m args below meth c D A nL rh rc n cells slots Q (pc + 3) lv (.ref (rh j) :: st) σ) : Vz p l e R s m args below meth c D A nL rh rc n cells slots Q pc lv (.ref (rh i) :: st) σ :=
  fun H locs ls hP hD hS hl => va_get X.1 X.2.1 X.2.2.2.2.1 hin X.2.2.2.1 X.2.2.2.2.2.1 hP i (by rw [wd_at hi, hr]) hc k hk (X.2.2.2.2.1 _ hw) (fun _ h9 => by rw [hsm]; exact h9) (hv (σ i)) d (kk H locs ls hP hD hS hl)
theorem v_put (X : Cx p s m args meth c D tys A cc nL own) {ci i ix N k : Nat} {C ref : String} {T : u_T} {F : (Nat → Int32) → List Value} {x : Int32} {ty : FieldType} (hi : i < n) (hr : ∀ f, rc i f = .inr (ci, F f)) (hc : vwCl[ci]? = some (C, T, N)) (hin : ∀ w ∈ u_ws C T N, w ∈ gw) (hk : k < N) (ty0 : Nat → FieldType) (hty : ∀ k, k < N → parseFieldDescriptor (T k).2.2.1 = some (ty0 k)) (hnm : ∀ a, a < N → ∀ b, b < N → a ≠ b → (T a).2.1 ≠ (T b).2.1) (hw : Cond.fieldLink own ix ref (T k).2.1 (T k).2.2.1 ∈ gw) (hsm : ref = (T k).1) (hfin : (T k).2.2.2 = false) (hd : parseFieldDescriptor (T k).2.2.1 = some ty) (hn : narrow ty (.int x) = .int x) (hfit : fits ty (.int x) = true) (hl9 : ∀ f, k < (F f).length) (hF : ∀ (f : Nat → Int32) (y : Int32), F (upd f k y) = (F f).set k (.int y)) (d : decode cc pc = .ok (.putfield ix, 3)) (kk : Vz p l e R s m args below meth c D A nL rh rc n cells slots Q (pc + 3) lv st (up σ i k x)) : Vz p l e R s m args below meth c D A nL rh rc n cells slots Q pc lv (.int x :: .ref (rh i) :: st) σ := by
  intro H locs ls hP hD hS hl
  refine va_put X.1 X.2.1 X.2.2.2.2.1 hin ty0 hty hnm X.2.2.2.1 X.2.2.2.2.2.1 hP hD hS i (by rw [wd_at hi, hr]) hc k hk (X.2.2.2.2.1 _ hw) (fun _ h9 => by rw [hsm]; exact h9) hfin hd hn hfit (hl9 _) d (fun H1 locs1 hP1 hD1 hS1 => ?_)
  rw [← hF, ← hr, wd_set] at hP1 hD1
  exact kk H1 locs1 ls hP1 hD1 hS1 hl
theorem v_iald (X : Cx p s m args meth c D tys A cc nL own) {i N t0 : Nat} {cA : ClassId} {j : Int32} (hi : i < n) (hr : ∀ f, rc i f = .inl (cA, N, .inl f)) (ht : tys[t0]? = some (cA, .int)) (hin : vp_in j N) (d : decode cc pc = .ok (.iaload, 1)) (kk : Vz p l e R s m args below meth c D A nL rh rc n cells slots Q (pc + 1) lv (.int (σ i j.toNatClampNeg) :: st) σ) : Vz p l e R s m args below meth c D A nL rh rc n cells slots Q pc lv (.int j :: .ref (rh i) :: st) σ :=
  fun H locs ls hP hD hS hl => va_iald X.1 X.2.1 X.2.2.2.2.2.1 hP i t0 (by rw [wd_at hi, hr]) ht hin d (kk H locs ls hP hD hS hl)
theorem v_iast (X : Cx p s m args meth c D tys A cc nL own) {i N t0 : Nat} {cA : ClassId} {j x : Int32} (hi : i < n) (hr : ∀ f, rc i f = .inl (cA, N, .inl f)) (ht : tys[t0]? = some (cA, .int)) (hin : vp_in j N) (d : decode cc pc = .ok (.iastore, 1)) (kk : Vz p l e R s m args below meth c D A nL rh rc n cells slots Q (pc + 1) lv st (up σ i j.toNatClampNeg x)) : Vz p l e R s m args below meth c D A nL rh rc n cells slots Q pc lv (.int x :: .int j :: .ref (rh i) :: st) σ := by
  intro H locs ls hP hD hS hl
  refine va_iast X.1 X.2.1 X.2.2.2.2.2.1 hP hD hS i t0 (by rw [wd_at hi, hr]) ht hin d (fun H1 locs1 hP1 hD1 hS1 => ?_)
  rw [← hr, wd_set] at hP1 hD1
  exact kk H1 locs1 ls hP1 hD1 hS1 hl
theorem v_aald (X : Cx p s m args meth c D tys A cc nL own) {i N t0 : Nat} {cA : ClassId} {C : String} {g : Nat → Nat} {j : Int32} (hi : i < n) (hr : ∀ f, rc i f = .inl (cA, N, .inr (.inr (.inr (.inr (fun k => some (rh (g k)))))))) (ht : tys[t0]? = some (cA, .object C)) (hin : vp_in j N) (d : decode cc pc = .ok (.aaload, 1)) (kk : Vz p l e R s m args below meth c D A nL rh rc n cells slots Q (pc + 1) lv (.ref (rh (g j.toNatClampNeg)) :: st) σ) : Vz p l e R s m args below meth c D A nL rh rc n cells slots Q pc lv (.int j :: .ref (rh i) :: st) σ :=
  fun H locs ls hP hD hS hl => va_aldq (f := fun k => some (rh (g k))) X.1 X.2.1 X.2.2.2.2.2.1 hP i t0 (by rw [wd_at hi, hr]) ht hin d (kk H locs ls hP hD hS hl)
theorem v_copy (X : Cx p s m args meth c D tys A cc nL own) {i1 i2 N1 N2 t0 ix : Nat} {cA : ClassId} {sp dp k : Int32} (hi1 : i1 < n) (hr1 : ∀ f, rc i1 f = .inl (cA, N1, .inl f)) (hi2 : i2 < n) (hr2 : ∀ f, rc i2 f = .inl (cA, N2, .inl f)) (ht : tys[t0]? = some (cA, .int)) (hw1 : Cond.methodLink own ix arraycopyName ∈ gw) (hw2 : Cond.native arraycopyName ∈ gw) (hw3 : Cond.static arraycopyName ∈ gw) (hw4 : Cond.initialized "java/lang/System" ∈ gw)
    (h1 : ¬ sp < 0) (h2 : ¬ dp < 0) (h3 : ¬ k < 0) (h4 : sp.toNatClampNeg + k.toNatClampNeg ≤ N1) (h5 : dp.toNatClampNeg + k.toNatClampNeg ≤ N2) (hfr : 1 ≤ R.frames) (hlo : (st.map fun v => v.category).sum + (nativeFrameWords "java/lang/System" "arraycopy" 5 + 11) ≤ R.locals) (d : decode cc pc = .ok (.invokestatic ix, 3)) (kk : Vz p l e R s m args below meth c D A nL rh rc n cells slots Q (pc + 3) lv st (upr σ i2 (va_cpy (σ i1) (σ i2) sp.toNatClampNeg dp.toNatClampNeg k.toNatClampNeg))) : Vz p l e R s m args below meth c D A nL rh rc n cells slots Q pc lv (.int k :: .int dp :: .ref (rh i2) :: .int sp :: .ref (rh i1) :: st) σ := by
  intro H locs ls hP hD hS hl
  refine va_copyi X.1 X.2.1 (X.2.2.1.trans hl.1.symm) X.2.2.2.1 (X.2.2.2.2.1 _ hw1) (X.2.2.2.2.1 _ hw2) (X.2.2.2.2.1 _ hw3) (X.2.2.2.2.1 _ hw4) X.2.2.2.2.2.1 hP hD hS i1 i2 t0 t0 (by rw [wd_at hi1, hr1]) (by rw [wd_at hi2, hr2]) ht ht rfl h1 h2 h3 h4 h5 (fun _ _ => rfl) hfr hlo d (fun H1 locs1 hP1 hD1 hS1 => ?_)
  rw [← hr2, wd_set] at hP1 hD1
  exact kk H1 locs1 ls hP1 hD1 hS1 hl
end VZROWS
-- contracts: from the state σ to the state σ', with an answer
def Rz (d : Nat) : Room := { frames := d, cells := 0, slots := 0, locals := 30 * d }
def Rq (d k n : Nat) : Room := { frames := d, cells := k, slots := n, locals := 30 * d }
def Pz (D : va_G) (tys : List (ClassId × FieldType)) (rh : Nat → Nat) (rc : Nat → (Nat → Int32) → va_E) (n : Nat) (σ : St) (sz : Nat) (U : State) : Prop := U.heap.size = sz ∧ va_P D vwCl (wd rh rc n σ) U.heap ∧ va_K D vwCl tys U ∧ Nz U ∧ Sz (va_A (wd rh rc n σ) sz) U U.heap ∧ va_D (fun _ => True) (wd rh rc n σ)
def Bz (D : va_G) (rh : Nat → Nat) (rc : Nat → (Nat → Int32) → va_E) (n : Nat) (A : Nat → Prop) (u : St) (t : State) : Prop := va_P D vwCl (wd rh rc n u) t.heap ∧ va_D A (wd rh rc n u)
def CI (l : Launch) (D : va_G) (tys : List (ClassId × FieldType)) (rh : Nat → Nat) (rc : Nat → (Nat → Int32) → va_E) (n : Nat) (y : MethodName) (cc : ByteArray) (nL : Nat) (ty : FieldType) (d : Nat) (As : List Value) (σ : St) (r : Int32) (σ' : St) : Prop :=
  ∀ sz : Nat, Met l y (Cond.code y cc nL (some ty) :: gw) (Rz d) (va_Pc As (Pz D tys rh rc n σ sz)) (va_Qi (fun r' u => r' = r ∧ u = σ') (Bz D rh rc n (va_A (wd rh rc n σ) sz)) (va_A (wd rh rc n σ) sz)) 0 0 (va_A (wd rh rc n σ) sz)
def CV (l : Launch) (D : va_G) (tys : List (ClassId × FieldType)) (rh : Nat → Nat) (rc : Nat → (Nat → Int32) → va_E) (n : Nat) (y : MethodName) (cc : ByteArray) (nL : Nat) (d : Nat) (As : List Value) (σ : St) (σ' : St) : Prop :=
  ∀ sz : Nat, Met l y (Cond.code y cc nL none :: gw) (Rz d) (va_Pc As (Pz D tys rh rc n σ sz)) (va_Qv (fun u => u = σ') (Bz D rh rc n (va_A (wd rh rc n σ) sz)) (va_A (wd rh rc n σ) sz)) 0 0 (va_A (wd rh rc n σ) sz)
theorem Pz.blind {D : va_G} {tys : List (ClassId × FieldType)} {rh : Nat → Nat} {rc : Nat → (Nat → Int32) → va_E} {n : Nat} {σ : St} {sz : Nat} {As : List Value} : FrameBlind (va_Pc As (Pz D tys rh rc n σ sz)) := by
  intro a U g mk q
  obtain ⟨q0, q1, qP, qK, qN, qS, qD⟩ := q
  exact ⟨q0, q1, qP, va_K.moved (u := U) (U := U.calling g mk a) (Vm.Alike.refl U.vm) qK, Nz.same (u := U) (U := U.calling g mk a) rfl qN, Sz.move (u := U) (U := U.calling g mk a) (H := U.heap) qS (Vm.Alike.refl U.vm) (fun _ _ _ => rfl) (fun _ h => h), qD⟩

theorem CI.of {l : Launch} {D : va_G} {tys : List (ClassId × FieldType)} {rh : Nat → Nat} {rc : Nat → (Nat → Int32) → va_E} {n : Nat} {y : MethodName} {cc : ByteArray} {nL : Nat} {ty : FieldType} {dp : Nat} {As : List Value} {σ σ' : St} {r : Int32} (hy : plainName y.cls = true) (hL : (lg_sl As).length ≤ nL) (hn : narrow ty (.int r) = .int r) 
    (body : ∀ (p : Program) (e : Env) (s : State) (m : MethodId) (args : Array Value) (below : List Frame) (meth : Method) (c : Code) (A : Nat → Prop) (Q : State → Prop), Cx p s m args meth c D tys A cc nL y.cls →
      (∀ (pc : Nat) (lv : List (Nat × Value)), decode cc pc = .ok (.ireturn, 1) → Vz p l e (Rz dp) s m args below meth c D A nL rh rc n 0 0 Q pc lv [.int r] σ') → Vz p l e (Rz dp) s m args below meth c D A nL rh rc n 0 0 Q 0 (lv_args 0 As) [] σ) : CI l D tys rh rc n y cc nL ty dp As σ r σ' := by
  intro sz
  refine Met.ofW (cc := cc) (maxL := nL) (ret := (some ty)) hy rfl ?_
  intro p e s m args below meth c s₁ B hml hv
  obtain ⟨rfl, hsz, hP, hK, hN, hZ, hD0⟩ := hv
  subst hsz
  have hD := hD0.self (sz := s.heap.size)
  have X : Cx p s m As.toArray meth c D tys (va_A (wd rh rc n σ) s.heap.size) cc nL y.cls := ⟨B.exec, B.bytes, hml, findClass_of_methodNamed B.named, fun w h => atoms_spec (ws := Cond.code y cc nL (some ty) :: gw) B.pre w (List.mem_cons_of_mem _ h), hK, hN, fun q h => Or.inr h, B.notSynchronized, hZ, wd_ns hP⟩
  have hl := lv_entry As (n := nL) hL
  rw [lg_entry_eq]
  exact body p e s m As.toArray below meth c _ _ X (fun pc lv d9 H1 locs1 ls1 hP1 hD1 hS1 hl1 => W.zret X.1 X.2.1 B.returns hn (fun t ht hW => ⟨⟨r, σ', rfl, ⟨rfl, rfl⟩, by rw [ht]; exact hP1, hD1⟩, hS1.F ht⟩) hS1.2.2 d9 B.notSynchronized) s.heap [] _ hP hD va_S.rf hl
theorem CV.of {l : Launch} {D : va_G} {tys : List (ClassId × FieldType)} {rh : Nat → Nat} {rc : Nat → (Nat → Int32) → va_E} {n : Nat} {y : MethodName} {cc : ByteArray} {nL : Nat} {dp : Nat} {As : List Value} {σ σ' : St} (hy : plainName y.cls = true) (hL : (lg_sl As).length ≤ nL) 
    (body : ∀ (p : Program) (e : Env) (s : State) (m : MethodId) (args : Array Value) (below : List Frame) (meth : Method) (c : Code) (A : Nat → Prop) (Q : State → Prop), Cx p s m args meth c D tys A cc nL y.cls →
      (∀ (pc : Nat) (lv : List (Nat × Value)), decode cc pc = .ok (.return_, 1) → Vz p l e (Rz dp) s m args below meth c D A nL rh rc n 0 0 Q pc lv [] σ') → Vz p l e (Rz dp) s m args below meth c D A nL rh rc n 0 0 Q 0 (lv_args 0 As) [] σ) : CV l D tys rh rc n y cc nL dp As σ σ' := by
  intro sz
  refine Met.ofW (cc := cc) (maxL := nL) (ret := none) hy rfl ?_
  intro p e s m args below meth c s₁ B hml hv
  obtain ⟨rfl, hsz, hP, hK, hN, hZ, hD0⟩ := hv
  subst hsz
  have hD := hD0.self (sz := s.heap.size)
  have X : Cx p s m As.toArray meth c D tys (va_A (wd rh rc n σ) s.heap.size) cc nL y.cls := ⟨B.exec, B.bytes, hml, findClass_of_methodNamed B.named, fun w h => atoms_spec (ws := Cond.code y cc nL none :: gw) B.pre w (List.mem_cons_of_mem _ h), hK, hN, fun q h => Or.inr h, B.notSynchronized, hZ, wd_ns hP⟩
  have hl := lv_entry As (n := nL) hL
  rw [lg_entry_eq]
  exact body p e s m As.toArray below meth c _ _ X (fun pc lv d9 H1 locs1 ls1 hP1 hD1 hS1 hl1 => W.vret X.1 X.2.1 B.returns (fun t ht hW => ⟨⟨σ', rfl, rfl, by rw [ht]; exact hP1, hD1⟩, hS1.F ht⟩) hS1.2.2 d9 B.notSynchronized) s.heap [] _ hP hD va_S.rf hl
section VZCALLS
variable {p : Program} {l : Launch} {e : Env} {R : Room} {s : State} {m : MethodId} {args : Array Value} {below : List Frame} {meth : Method} {c : Code} {D : va_G} {tys : List (ClassId × FieldType)} {A : Nat → Prop} {cc : ByteArray} {nL : Nat} {own : String} {rh : Nat → Nat} {rc : Nat → (Nat → Int32) → va_E} {n : Nat} {cells slots : Nat} {Q : State → Prop} {pc : Nat} {lv lv' : List (Nat × Value)} {st : List Value} {σ σ' : St}
theorem vz_free {H : Heap} {locs : List Loc} (X : Cx p s m args meth c D tys A cc nL own) (hD : va_D A (wd rh rc n σ)) (hS : va_S A s.heap H locs) : ∀ q, va_A (wd rh rc n σ) H.size q → A q := by
  intro q h
  rcases h with ⟨k, e9, h⟩ | h
  · exact hD.2 k _ h
  · exact X.2.2.2.2.2.2.2.1 q (Nat.le_trans hS.1 h)
/-- what is the same for all calls of a method: its code is among the words, its class is initialized, how many arguments -/
def MF (y : MethodName) (cc : ByteArray) (nL : Nat) (ret : Option FieldType) (k : Nat) : Prop := Cond.code y cc nL ret ∈ gw ∧ Cond.initialized y.cls ∈ gw ∧ (y.cls ≠ "java/lang/invoke/MethodHandle" ∧ y.cls ≠ "java/lang/invoke/VarHandle" ∧ (parseMethodDescriptor y.desc).map (fun d => d.parameters.length) = some k)
theorem v_callS_CI (X : Cx p s m args meth c D tys A cc nL own) {y : MethodName} {bytes : ByteArray} {nL' dp ix kA : Nat} {ty : FieldType} {r : Int32} {rest : List Value} (As : List Value) (hC : CI l D tys rh rc n y bytes nL' ty dp As σ r σ') (hm : MF y bytes nL' (some ty) kA) (hst : Cond.static y ∈ gw) (hlk : Cond.methodLink own ix y ∈ gw) (hA : As.length = kA) (hR : (Rz dp).frames + 1 ≤ R.frames ∧ 8 + (nL' + 11) + (Rz dp).locals ≤ R.locals) (hrm : (rest.map fun v => v.category).sum ≤ 8) (hf : cells ≤ R.cells ∧ slots ≤ R.slots) (d : decode cc pc = .ok (.invokestatic ix, 3)) (kk : Vz p l e R s m args below meth c D A nL rh rc n cells slots Q (pc + 3) lv (.int r :: rest) σ') : Vz p l e R s m args below meth c D A nL rh rc n cells slots Q pc lv (As.reverse ++ rest) σ := by
  intro H locs ls hP hD hS hl
  have hFc := vz_free X hD hS
  refine va_calli (va_runS (As := As) (rest := rest) ⟨X.1, X.2.1, X.2.2.1, X.2.2.2.1, X.2.2.2.2.1⟩ (hC H.size) ⟨callB_of kA X.2.2.2.2.1 (gw_good (fun _ h => h) hm.1) rfl rfl rfl (X.2.2.2.2.1 _ hm.2.1) (X.2.2.2.2.1 _ hlk) hm.2.2 hR, X.2.2.2.2.1 _ hst⟩ ⟨Pz.blind, fun U hU hW => ⟨rfl, by rw [hU], by rw [hU]; exact hP, va_K.moved hW.alike X.2.2.2.2.2.1, Nz.warm hW X.2.2.2.2.2.2.1, Sz.move X.2.2.2.2.2.2.2.2.2.1 hW.alike (fun a9 h8 h9 => by rw [hU]; exact hS.2.1 a9 h8 h9) hFc, hD.weaken (fun _ _ _ _ => trivial)⟩⟩ rfl hA hl.1 rfl (lv_room hrm) d hf) hS (fun q _ h => hFc q h) hFc (fun r9 u t H1 locs1 ht hvm hw hB hz1 hk1 hS1 => ?_)
  obtain ⟨rfl, rfl⟩ := hw
  obtain ⟨hP1, hD1⟩ := hB
  rw [ht] at hP1
  exact kk H1 locs1 ls hP1 (hD1.weaken (fun _ _ _ h => hFc _ h)) hS1 hl
theorem v_callSN_CI (X : Cx p s m args meth c D tys A cc nL own) {y : MethodName} {bytes : ByteArray} {nL' dp ix kA : Nat} {ty : FieldType} {r : Int32} {host : String} {rest : List Value} (As : List Value) (hC : CI l D tys rh rc n y bytes nL' ty dp As σ r σ') (hm : MF y bytes nL' (some ty) kA) (hst : Cond.static y ∈ gw) (hlk : Cond.methodLinkNest own ix y host ∈ nw) (hA : As.length = kA) (hR : (Rz dp).frames + 1 ≤ R.frames ∧ 8 + (nL' + 11) + (Rz dp).locals ≤ R.locals) (hrm : (rest.map fun v => v.category).sum ≤ 8) (hf : cells ≤ R.cells ∧ slots ≤ R.slots) (d : decode cc pc = .ok (.invokestatic ix, 3)) (kk : Vz p l e R s m args below meth c D A nL rh rc n cells slots Q (pc + 3) lv (.int r :: rest) σ') : Vz p l e R s m args below meth c D A nL rh rc n cells slots Q pc lv (As.reverse ++ rest) σ := by
  intro H locs ls hP hD hS hl
  have hFc := vz_free X hD hS
  refine va_calli (va_runSN (As := As) (rest := rest) ⟨X.1, X.2.1, X.2.2.1, X.2.2.2.1, X.2.2.2.2.1⟩ (hC H.size) ⟨va_cnB kA X.2.2.2.2.1 (gw_good (fun _ h => h) hm.1) rfl rfl rfl (X.2.2.2.2.2.2.1.1 _ hlk) (X.2.2.2.2.1 _ hm.2.1) hm.2.2 hR, X.2.2.2.2.1 _ hst, trivial⟩ ⟨Pz.blind, fun U hU hW => ⟨rfl, by rw [hU], by rw [hU]; exact hP, va_K.moved hW.alike X.2.2.2.2.2.1, Nz.warm hW X.2.2.2.2.2.2.1, Sz.move X.2.2.2.2.2.2.2.2.2.1 hW.alike (fun a9 h8 h9 => by rw [hU]; exact hS.2.1 a9 h8 h9) hFc, hD.weaken (fun _ _ _ _ => trivial)⟩⟩ rfl hA hl.1 rfl (lv_room hrm) d hf) hS (fun q _ h => hFc q h) hFc (fun r9 u t H1 locs1 ht hvm hw hB hz1 hk1 hS1 => ?_)
  obtain ⟨rfl, rfl⟩ := hw
  obtain ⟨hP1, hD1⟩ := hB
  rw [ht] at hP1
  exact kk H1 locs1 ls hP1 (hD1.weaken (fun _ _ _ h => hFc _ h)) hS1 hl
theorem v_callV_CI (X : Cx p s m args meth c D tys A cc nL own) {y : MethodName} {bytes : ByteArray} {nL' dp ix kA : Nat} {ty : FieldType} {r : Int32} {i ci N : Nat} {T : u_T} {F : (Nat → Int32) → List Value} {rest : List Value} (As : List Value) (hC : CI l D tys rh rc n y bytes nL' ty dp (.ref (rh i) :: As) σ r σ') (hm : MF y bytes nL' (some ty) kA) (hins : Cond.instanceMethod y ∈ gw) (hsel : Cond.selects y.cls y y ∈ gw) (hi : i < n) (hr : ∀ f, rc i f = .inr (ci, F f)) (hc : vwCl[ci]? = some (y.cls, T, N)) (hlk : Cond.methodLink own ix y ∈ gw) (hA : As.length = kA) (hR : (Rz dp).frames + 1 ≤ R.frames ∧ 8 + (nL' + 11) + (Rz dp).locals ≤ R.locals) (hrm : (rest.map fun v => v.category).sum ≤ 8) (hf : cells ≤ R.cells ∧ slots ≤ R.slots) (d : decode cc pc = .ok (.invokevirtual ix, 3)) (kk : Vz p l e R s m args below meth c D A nL rh rc n cells slots Q (pc + 3) lv (.int r :: rest) σ') : Vz p l e R s m args below meth c D A nL rh rc n cells slots Q pc lv (As.reverse ++ .ref (rh i) :: rest) σ := by
  intro H locs ls hP hD hS hl
  have hFc := vz_free X hD hS
  refine va_calli (va_runV (As := As) (rest := rest) ⟨X.1, X.2.1, X.2.2.1, X.2.2.2.1, X.2.2.2.2.1⟩ (hC H.size) ⟨callB_of kA X.2.2.2.2.1 (gw_good (fun _ h => h) hm.1) rfl rfl rfl (X.2.2.2.2.1 _ hm.2.1) (X.2.2.2.2.1 _ hlk) hm.2.2 hR, X.2.2.2.2.1 _ hins, X.2.2.2.2.1 _ hsel⟩ ⟨Pz.blind, va_recv X.2.2.2.2.2.1 hP hc (by rw [wd_at hi, hr]), fun U hU hW => ⟨rfl, by rw [hU], by rw [hU]; exact hP, va_K.moved hW.alike X.2.2.2.2.2.1, Nz.warm hW X.2.2.2.2.2.2.1, Sz.move X.2.2.2.2.2.2.2.2.2.1 hW.alike (fun a9 h8 h9 => by rw [hU]; exact hS.2.1 a9 h8 h9) hFc, hD.weaken (fun _ _ _ _ => trivial)⟩⟩ rfl hA hl.1 rfl (lv_room hrm) d hf) hS (fun q _ h => hFc q h) hFc (fun r9 u t H1 locs1 ht hvm hw hB hz1 hk1 hS1 => ?_)
  obtain ⟨rfl, rfl⟩ := hw
  obtain ⟨hP1, hD1⟩ := hB
  rw [ht] at hP1
  exact kk H1 locs1 ls hP1 (hD1.weaken (fun _ _ _ h => hFc _ h)) hS1 hl
theorem v_callVN_CI (X : Cx p s m args meth c D tys A cc nL own) {y : MethodName} {bytes : ByteArray} {nL' dp ix kA : Nat} {ty : FieldType} {r : Int32} {host : String} {i ci N : Nat} {T : u_T} {F : (Nat → Int32) → List Value} {rest : List Value} (As : List Value) (hC : CI l D tys rh rc n y bytes nL' ty dp (.ref (rh i) :: As) σ r σ') (hm : MF y bytes nL' (some ty) kA) (hins : Cond.instanceMethod y ∈ gw) (hsel : Cond.selects y.cls y y ∈ gw) (hi : i < n) (hr : ∀ f, rc i f = .inr (ci, F f)) (hc : vwCl[ci]? = some (y.cls, T, N)) (hlk : Cond.methodLinkNest own ix y host ∈ nw) (hA : As.length = kA) (hR : (Rz dp).frames + 1 ≤ R.frames ∧ 8 + (nL' + 11) + (Rz dp).locals ≤ R.locals) (hrm : (rest.map fun v => v.category).sum ≤ 8) (hf : cells ≤ R.cells ∧ slots ≤ R.slots) (d : decode cc pc = .ok (.invokevirtual ix, 3)) (kk : Vz p l e R s m args below meth c D A nL rh rc n cells slots Q (pc + 3) lv (.int r :: rest) σ') : Vz p l e R s m args below meth c D A nL rh rc n cells slots Q pc lv (As.reverse ++ .ref (rh i) :: rest) σ := by
  intro H locs ls hP hD hS hl
  have hFc := vz_free X hD hS
  refine va_calli (va_runVN (As := As) (rest := rest) ⟨X.1, X.2.1, X.2.2.1, X.2.2.2.1, X.2.2.2.2.1⟩ (hC H.size) ⟨va_cnB kA X.2.2.2.2.1 (gw_good (fun _ h => h) hm.1) rfl rfl rfl (X.2.2.2.2.2.2.1.1 _ hlk) (X.2.2.2.2.1 _ hm.2.1) hm.2.2 hR, X.2.2.2.2.1 _ hins, X.2.2.2.2.1 _ hsel⟩ ⟨Pz.blind, va_recv X.2.2.2.2.2.1 hP hc (by rw [wd_at hi, hr]), fun U hU hW => ⟨rfl, by rw [hU], by rw [hU]; exact hP, va_K.moved hW.alike X.2.2.2.2.2.1, Nz.warm hW X.2.2.2.2.2.2.1, Sz.move X.2.2.2.2.2.2.2.2.2.1 hW.alike (fun a9 h8 h9 => by rw [hU]; exact hS.2.1 a9 h8 h9) hFc, hD.weaken (fun _ _ _ _ => trivial)⟩⟩ rfl hA hl.1 rfl (lv_room hrm) d hf) hS (fun q _ h => hFc q h) hFc (fun r9 u t H1 locs1 ht hvm hw hB hz1 hk1 hS1 => ?_)
  obtain ⟨rfl, rfl⟩ := hw
  obtain ⟨hP1, hD1⟩ := hB
  rw [ht] at hP1
  exact kk H1 locs1 ls hP1 (hD1.weaken (fun _ _ _ h => hFc _ h)) hS1 hl
theorem v_callS_CV (X : Cx p s m args meth c D tys A cc nL own) {y : MethodName} {bytes : ByteArray} {nL' dp ix kA : Nat} {rest : List Value} (As : List Value) (hC : CV l D tys rh rc n y bytes nL' dp As σ σ') (hm : MF y bytes nL' none kA) (hst : Cond.static y ∈ gw) (hlk : Cond.methodLink own ix y ∈ gw) (hA : As.length = kA) (hR : (Rz dp).frames + 1 ≤ R.frames ∧ 8 + (nL' + 11) + (Rz dp).locals ≤ R.locals) (hrm : (rest.map fun v => v.category).sum ≤ 8) (hf : cells ≤ R.cells ∧ slots ≤ R.slots) (d : decode cc pc = .ok (.invokestatic ix, 3)) (kk : Vz p l e R s m args below meth c D A nL rh rc n cells slots Q (pc + 3) lv rest σ') : Vz p l e R s m args below meth c D A nL rh rc n cells slots Q pc lv (As.reverse ++ rest) σ := by
  intro H locs ls hP hD hS hl
  have hFc := vz_free X hD hS
  refine va_callv (va_runS (As := As) (rest := rest) ⟨X.1, X.2.1, X.2.2.1, X.2.2.2.1, X.2.2.2.2.1⟩ (hC H.size) ⟨callB_of kA X.2.2.2.2.1 (gw_good (fun _ h => h) hm.1) rfl rfl rfl (X.2.2.2.2.1 _ hm.2.1) (X.2.2.2.2.1 _ hlk) hm.2.2 hR, X.2.2.2.2.1 _ hst⟩ ⟨Pz.blind, fun U hU hW => ⟨rfl, by rw [hU], by rw [hU]; exact hP, va_K.moved hW.alike X.2.2.2.2.2.1, Nz.warm hW X.2.2.2.2.2.2.1, Sz.move X.2.2.2.2.2.2.2.2.2.1 hW.alike (fun a9 h8 h9 => by rw [hU]; exact hS.2.1 a9 h8 h9) hFc, hD.weaken (fun _ _ _ _ => trivial)⟩⟩ rfl hA hl.1 rfl (lv_room hrm) d hf) hS (fun q _ h => hFc q h) hFc (fun u t H1 locs1 ht hvm hw hB hz1 hk1 hS1 => ?_)
  cases hw
  obtain ⟨hP1, hD1⟩ := hB
  rw [ht] at hP1
  exact kk H1 locs1 ls hP1 (hD1.weaken (fun _ _ _ h => hFc _ h)) hS1 hl
theorem v_callSN_CV (X : Cx p s m args meth c D tys A cc nL own) {y : MethodName} {bytes : ByteArray} {nL' dp ix kA : Nat} {host : String} {rest : List Value} (As : List Value) (hC : CV l D tys rh rc n y bytes nL' dp As σ σ') (hm : MF y bytes nL' none kA) (hst : Cond.static y ∈ gw) (hlk : Cond.methodLinkNest own ix y host ∈ nw) (hA : As.length = kA) (hR : (Rz dp).frames + 1 ≤ R.frames ∧ 8 + (nL' + 11) + (Rz dp).locals ≤ R.locals) (hrm : (rest.map fun v => v.category).sum ≤ 8) (hf : cells ≤ R.cells ∧ slots ≤ R.slots) (d : decode cc pc = .ok (.invokestatic ix, 3)) (kk : Vz p l e R s m args below meth c D A nL rh rc n cells slots Q (pc + 3) lv rest σ') : Vz p l e R s m args below meth c D A nL rh rc n cells slots Q pc lv (As.reverse ++ rest) σ := by
  intro H locs ls hP hD hS hl
  have hFc := vz_free X hD hS
  refine va_callv (va_runSN (As := As) (rest := rest) ⟨X.1, X.2.1, X.2.2.1, X.2.2.2.1, X.2.2.2.2.1⟩ (hC H.size) ⟨va_cnB kA X.2.2.2.2.1 (gw_good (fun _ h => h) hm.1) rfl rfl rfl (X.2.2.2.2.2.2.1.1 _ hlk) (X.2.2.2.2.1 _ hm.2.1) hm.2.2 hR, X.2.2.2.2.1 _ hst, trivial⟩ ⟨Pz.blind, fun U hU hW => ⟨rfl, by rw [hU], by rw [hU]; exact hP, va_K.moved hW.alike X.2.2.2.2.2.1, Nz.warm hW X.2.2.2.2.2.2.1, Sz.move X.2.2.2.2.2.2.2.2.2.1 hW.alike (fun a9 h8 h9 => by rw [hU]; exact hS.2.1 a9 h8 h9) hFc, hD.weaken (fun _ _ _ _ => trivial)⟩⟩ rfl hA hl.1 rfl (lv_room hrm) d hf) hS (fun q _ h => hFc q h) hFc (fun u t H1 locs1 ht hvm hw hB hz1 hk1 hS1 => ?_)
  cases hw
  obtain ⟨hP1, hD1⟩ := hB
  rw [ht] at hP1
  exact kk H1 locs1 ls hP1 (hD1.weaken (fun _ _ _ h => hFc _ h)) hS1 hl
theorem v_callV_CV (X : Cx p s m args meth c D tys A cc nL own) {y : MethodName} {bytes : ByteArray} {nL' dp ix kA : Nat} {i ci N : Nat} {T : u_T} {F : (Nat → Int32) → List Value} {rest : List Value} (As : List Value) (hC : CV l D tys rh rc n y bytes nL' dp (.ref (rh i) :: As) σ σ') (hm : MF y bytes nL' none kA) (hins : Cond.instanceMethod y ∈ gw) (hsel : Cond.selects y.cls y y ∈ gw) (hi : i < n) (hr : ∀ f, rc i f = .inr (ci, F f)) (hc : vwCl[ci]? = some (y.cls, T, N)) (hlk : Cond.methodLink own ix y ∈ gw) (hA : As.length = kA) (hR : (Rz dp).frames + 1 ≤ R.frames ∧ 8 + (nL' + 11) + (Rz dp).locals ≤ R.locals) (hrm : (rest.map fun v => v.category).sum ≤ 8) (hf : cells ≤ R.cells ∧ slots ≤ R.slots) (d : decode cc pc = .ok (.invokevirtual ix, 3)) (kk : Vz p l e R s m args below meth c D A nL rh rc n cells slots Q (pc + 3) lv rest σ') : Vz p l e R s m args below meth c D A nL rh rc n cells slots Q pc lv (As.reverse ++ .ref (rh i) :: rest) σ := by
  intro H locs ls hP hD hS hl
  have hFc := vz_free X hD hS
  refine va_callv (va_runV (As := As) (rest := rest) ⟨X.1, X.2.1, X.2.2.1, X.2.2.2.1, X.2.2.2.2.1⟩ (hC H.size) ⟨callB_of kA X.2.2.2.2.1 (gw_good (fun _ h => h) hm.1) rfl rfl rfl (X.2.2.2.2.1 _ hm.2.1) (X.2.2.2.2.1 _ hlk) hm.2.2 hR, X.2.2.2.2.1 _ hins, X.2.2.2.2.1 _ hsel⟩ ⟨Pz.blind, va_recv X.2.2.2.2.2.1 hP hc (by rw [wd_at hi, hr]), fun U hU hW => ⟨rfl, by rw [hU], by rw [hU]; exact hP, va_K.moved hW.alike X.2.2.2.2.2.1, Nz.warm hW X.2.2.2.2.2.2.1, Sz.move X.2.2.2.2.2.2.2.2.2.1 hW.alike (fun a9 h8 h9 => by rw [hU]; exact hS.2.1 a9 h8 h9) hFc, hD.weaken (fun _ _ _ _ => trivial)⟩⟩ rfl hA hl.1 rfl (lv_room hrm) d hf) hS (fun q _ h => hFc q h) hFc (fun u t H1 locs1 ht hvm hw hB hz1 hk1 hS1 => ?_)
  cases hw
  obtain ⟨hP1, hD1⟩ := hB
  rw [ht] at hP1
  exact kk H1 locs1 ls hP1 (hD1.weaken (fun _ _ _ h => hFc _ h)) hS1 hl
theorem v_callVN_CV (X : Cx p s m args meth c D tys A cc nL own) {y : MethodName} {bytes : ByteArray} {nL' dp ix kA : Nat} {host : String} {i ci N : Nat} {T : u_T} {F : (Nat → Int32) → List Value} {rest : List Value} (As : List Value) (hC : CV l D tys rh rc n y bytes nL' dp (.ref (rh i) :: As) σ σ') (hm : MF y bytes nL' none kA) (hins : Cond.instanceMethod y ∈ gw) (hsel : Cond.selects y.cls y y ∈ gw) (hi : i < n) (hr : ∀ f, rc i f = .inr (ci, F f)) (hc : vwCl[ci]? = some (y.cls, T, N)) (hlk : Cond.methodLinkNest own ix y host ∈ nw) (hA : As.length = kA) (hR : (Rz dp).frames + 1 ≤ R.frames ∧ 8 + (nL' + 11) + (Rz dp).locals ≤ R.locals) (hrm : (rest.map fun v => v.category).sum ≤ 8) (hf : cells ≤ R.cells ∧ slots ≤ R.slots) (d : decode cc pc = .ok (.invokevirtual ix, 3)) (kk : Vz p l e R s m args below meth c D A nL rh rc n cells slots Q (pc + 3) lv rest σ') : Vz p l e R s m args below meth c D A nL rh rc n cells slots Q pc lv (As.reverse ++ .ref (rh i) :: rest) σ := by
  intro H locs ls hP hD hS hl
  have hFc := vz_free X hD hS
  refine va_callv (va_runVN (As := As) (rest := rest) ⟨X.1, X.2.1, X.2.2.1, X.2.2.2.1, X.2.2.2.2.1⟩ (hC H.size) ⟨va_cnB kA X.2.2.2.2.1 (gw_good (fun _ h => h) hm.1) rfl rfl rfl (X.2.2.2.2.2.2.1.1 _ hlk) (X.2.2.2.2.1 _ hm.2.1) hm.2.2 hR, X.2.2.2.2.1 _ hins, X.2.2.2.2.1 _ hsel⟩ ⟨Pz.blind, va_recv X.2.2.2.2.2.1 hP hc (by rw [wd_at hi, hr]), fun U hU hW => ⟨rfl, by rw [hU], by rw [hU]; exact hP, va_K.moved hW.alike X.2.2.2.2.2.1, Nz.warm hW X.2.2.2.2.2.2.1, Sz.move X.2.2.2.2.2.2.2.2.2.1 hW.alike (fun a9 h8 h9 => by rw [hU]; exact hS.2.1 a9 h8 h9) hFc, hD.weaken (fun _ _ _ _ => trivial)⟩⟩ rfl hA hl.1 rfl (lv_room hrm) d hf) hS (fun q _ h => hFc q h) hFc (fun u t H1 locs1 ht hvm hw hB hz1 hk1 hS1 => ?_)
  cases hw
  obtain ⟨hP1, hD1⟩ := hB
  rw [ht] at hP1
  exact kk H1 locs1 ls hP1 (hD1.weaken (fun _ _ _ h => hFc _ h)) hS1 hl
end VZCALLS
end
section
/-! THROWING: a method's answer is (code, number, state); code 0: it returns; else it throws exN code -/
def exN (k : Int32) : String := if k = 1 then "java/lang/IllegalArgumentException" else if k = 2 then "java/lang/IllegalStateException" else "java/lang/UnsupportedOperationException"
/-- q, of the class E, is thrown over the frame -/
def Tz (p : Program) (l : Launch) (e : Env) (R : Room) (s : State) (m : MethodId) (args : Array Value) (below : List Frame) (meth : Method) (c : Code) (D : va_G) (A : Nat → Prop) (nL : Nat) (rh : Nat → Nat) (rc : Nat → (Nat → Int32) → va_E) (n : Nat) (cells slots : Nat) (Q : State → Prop) (pc : Nat) (lv : List (Nat × Value)) (st : List Value) (σ : St) (E : String) : Prop :=
  ∀ (H : Heap) (locs : List Loc) (ls : Array Slot) (q : Addr) (ce : Cell), va_P D vwCl (wd rh rc n σ) H → va_D A (wd rh rc n σ) → va_S A s.heap H locs → lv_has ls nL lv → H[q]? = some ce → ce.vm = .none → s.vm.findClass E = some ce.cls →
    ∀ T : State, T.heap = H → Stand p l e R s m args below meth c T locs cells slots → ∃ t, Steps p.tables e below ((T.setTop (F0 m pc ls st)).pushFrame (.throwing q)) t ∧ Q t
def XF (Aw : Nat → Prop) (E : String) (mc ms : Nat) (B : State → Prop) (st : State) (o : Outcome) (t : State) : Prop :=
  ∃ (q : Addr) (ce : Cell) (L : List Loc), o = .threw q ∧ t.heap[q]? = some ce ∧ ce.vm = .none ∧ st.vm.findClass E = some ce.cls ∧ st.WarmedH t.vm ∧ st.sameButNew ({ t with vm := st.vm } : State) L mc ms ∧ (∀ z ∈ L, Aw z.base) ∧ B t ∧ va_F Aw st t
def XQ (Aw : Nat → Prop) (mc ms : Nat) (B : St → State → Prop) (v : Int32 → Option Value) (F : Int32 × Int32 × St) : Array Value → State → Outcome → State → Prop := fun _ st o t =>
  (F.1 = 0 ∧ o = .returned (v F.2.1) ∧ (∃ L, FrameEnd st o t L mc ms ∧ ∀ q ∈ L, Aw q.base) ∧ B F.2.2 t ∧ va_F Aw st t) ∨ (¬ F.1 = 0 ∧ XF Aw (exN F.1) mc ms (B F.2.2) st o t)
def CFI (l : Launch) (D : va_G) (tys : List (ClassId × FieldType)) (rh : Nat → Nat) (rc : Nat → (Nat → Int32) → va_E) (n : Nat) (y : MethodName) (cc : ByteArray) (nL : Nat) (d mc ms : Nat) (As : List Value) (σ : St) (F : Int32 × Int32 × St) : Prop :=
  ∀ sz : Nat, MetFree l y (headSpec (Cond.code y cc nL (some .int) :: gw) (Rq d mc ms)) (va_Pc As (Pz D tys rh rc n σ sz)) (fun _ _ _ _ _ => True) (XQ (va_A (wd rh rc n σ) sz) mc ms (Bz D rh rc n (va_A (wd rh rc n σ) sz)) (fun x => some (.int x)) F)
def CFV (l : Launch) (D : va_G) (tys : List (ClassId × FieldType)) (rh : Nat → Nat) (rc : Nat → (Nat → Int32) → va_E) (n : Nat) (y : MethodName) (cc : ByteArray) (nL : Nat) (d mc ms : Nat) (As : List Value) (σ : St) (F : Int32 × Int32 × St) : Prop :=
  ∀ sz : Nat, MetFree l y (headSpec (Cond.code y cc nL none :: gw) (Rq d mc ms)) (va_Pc As (Pz D tys rh rc n σ sz)) (fun _ _ _ _ _ => True) (XQ (va_A (wd rh rc n σ) sz) mc ms (Bz D rh rc n (va_A (wd rh rc n σ) sz)) (fun _ => none) F)
/-- a call, by a contract that speaks of every outcome -/
theorem xcall {p : Program} {l : Launch} {e : Env} {R rm : Room} {s : State} {m : MethodId} {args : Array Value} {below : List Frame} {meth : Method} {c : Code} {U : State} {Ls : List Loc} {c0 s0 : Nat} {y : MethodName} {ws : List Cond} {Pc : Array Value → State → Prop} {Q : Array Value → State → Outcome → State → Prop} {maxL : Nat} {a : Array Value} {g : JFrame} {mk : MethodId} {ig : Instr} {len : Nat}
    (X : Stand p l e R s m args below meth c U Ls c0 s0) (hM : MetFree l y (headSpec ws rm) Pc (fun _ _ _ _ _ => True) Q) (h1 : ∀ w ∈ ws, w.before a U = true)
    (hlY : ∀ methY cY, U.vm.method? mk = some methY → methY.code = some cY → cY.maxLocals = maxL) (hcY : ∃ methY cY, U.vm.method? mk = some methY ∧ methY.code = some cY)
    (h3 : (Cond.initialized y.cls).before a U = true) (h4 : c0 + rm.cells ≤ R.cells) (h5 : s0 + rm.slots ≤ R.slots) (hfr : rm.frames + 1 ≤ R.frames) (hlo : 8 + (maxL + 11) + rm.locals ≤ R.locals)
    (hPc : Pc a (U.calling g mk a)) (hg : g.method = m) (hsize : g.locals.size = c.maxLocals) (hdg : decode c.code g.pc = .ok (ig, len)) (hW : 2 * g.monitorRoom + (g.stack.map fun v => v.category).sum ≤ 8) (hn : U.methodNamed? y = some mk) :
    ∃ (o : Outcome) (s₂ : State), Q a (U.calling g mk a) o s₂ ∧
      (∀ v L k n, o = .returned v → FrameEnd (U.calling g mk a) o s₂ L k n → ∃ T' : State, Stand p l e R s m args below meth c T' (Ls ++ L) (c0 + k) (s0 + n) ∧ T'.heap = s₂.heap ∧ T'.vm = s₂.vm ∧
        Steps p.tables e below (doInvoke e (U.setTop g) [] mk a).1 (T'.setTop { g with pc := g.pc + len, stack := v.toList ++ g.stack })) ∧
      (∀ q L k n, o = .threw q → (U.calling g mk a).WarmedH s₂.vm → (U.calling g mk a).sameButNew ({ s₂ with vm := (U.calling g mk a).vm } : State) L k n → ∃ T' : State, Stand p l e R s m args below meth c T' (Ls ++ L) (c0 + k) (s0 + n) ∧ T'.heap = s₂.heap ∧ T'.vm = s₂.vm ∧
        Steps p.tables e below (doInvoke e (U.setTop g) [] mk a).1 ((T'.setTop g).pushFrame (.throwing q))) := by
  obtain ⟨methY, cY, hmY, hcY⟩ := hcY
  have hl9 := hlY methY cY hmY hcY
  obtain ⟨kY, hkY, -⟩ := className_of_methodNamed hn
  have hinitY : kY.init = .initialized := Cond.initialized_spec (findClass_of_methodNamed hn) hkY h3
  have h : At U g.method c below := by rw [hg]; exact X.here
  have hpre : (headSpec ws rm).pre.before a U = true := atoms_intro h1
  have happ : (headSpec ws rm).appliesLoose y e.platform (U.calling g mk a) = true :=
    Spec.appliesLoose_calling (g := g) h hdg hn hkY hinitY
      (X.room_calling (g := g) (R' := (headSpec ws rm).room) hsize hmY hcY hfr (by rw [hl9]; show 2 * g.monitorRoom + (g.stack.map fun v => v.category).sum + (maxL + 11) + rm.locals ≤ R.locals; omega) h4 h5) hpre
  obtain ⟨mid, hmid⟩ := h.above
  have hfr2 : (U.setTop g).frames = (.java g :: mid) ++ below := by rw [State.frames_setTop' g h.top, hmid]; rfl
  obtain ⟨o, s₂, hsteps, -, hend, hq⟩ := Steps.callFree hM p X.admits X.cas X.clock (acts := []) hfr2 happ hPc trivial
  rw [State.frames_setTop' g h.top] at hend
  obtain ⟨g₀, hg0⟩ := Option.isSome_iff_exists.mp h.top
  obtain ⟨r, hr⟩ := State.topJava?_eq_some.mp hg0
  have hr' : (({ U with heap := s₂.heap, slotsUsed := s₂.slotsUsed } : State).setVm s₂.vm).frames = .java g₀ :: r := hr
  have stand : ∀ (L : List Loc) (k n : Nat), U.WarmedH s₂.vm → (U.calling g mk a).sameButNew ({ s₂ with vm := (U.calling g mk a).vm } : State) L k n → Stand p l e R s m args below meth c (({ U with heap := s₂.heap, slotsUsed := s₂.slotsUsed } : State).setVm s₂.vm) (Ls ++ L) (c0 + k) (s0 + n) := by
    intro L k n hW' hsm
    obtain ⟨-, q2, q3, q4, q5, q6⟩ := hsm
    have hsame : U.sameButNew ({ U with heap := s₂.heap, slotsUsed := s₂.slotsUsed } : State) L k n := by
      refine ⟨?_, q2, q3, q4, q5, q6⟩
      obtain ⟨t, ht, -⟩ := State.frames_cons hr
      show ({ U with heap := s₂.heap, slotsUsed := s₂.slotsUsed } : State) = { U.setFrames U.frames with heap := s₂.heap, slotsUsed := s₂.slotsUsed }
      rw [State.setFrames_self ht]
    exact ⟨X.admits, X.cas, X.clock, X.frames, X.room, X.hears, X.method, X.code, (X.here.setHeapUsed s₂.heap s₂.slotsUsed).setVm hW'.alike, X.tail, State.WarmedH.trans X.warmed hW', X.limits, X.bytes, X.same.trans (hsame.setVm s.vm)⟩
  have same3 : ∀ (L : List Loc) (k n : Nat), (U.calling g mk a).sameButNew ({ s₂ with vm := (U.calling g mk a).vm } : State) L k n → s₂ = ({ (U.calling g mk a).setFrames s₂.frames with heap := s₂.heap, slotsUsed := s₂.slotsUsed } : State).setVm s₂.vm := by
    intro L k n hsm
    have e2 := hsm.1
    have : s₂ = ({ s₂ with vm := (U.calling g mk a).vm } : State).setVm s₂.vm := rfl
    rw [e2] at this
    exact this
  refine ⟨o, s₂, hq, ?_, ?_⟩
  · intro v L k n ho hfe
    subst ho
    obtain ⟨-, hW₂, hsm⟩ := hfe
    have e3 := same3 L k n hsm
    obtain ⟨c₂, i₂, len₂, hc₂, hd₂, hf₂⟩ := hend
    have hW' : U.WarmedH s₂.vm := hW₂
    have hcc : c₂ = c := by
      have h1 : s₂.code? g.method = U.code? g.method := by
        rw [State.code?_eq, State.code?_eq, hW'.alike.method?]
      exact Option.some.inj (hc₂.symm.trans (h1.trans h.code))
    subst hcc
    have hlen : len₂ = len := by rw [hdg] at hd₂; cases hd₂; rfl
    subst hlen
    have hs₂ : s₂ = (({ U with heap := s₂.heap, slotsUsed := s₂.slotsUsed } : State).setVm s₂.vm).setTop { g with pc := g.pc + len₂, stack := v.toList ++ g.stack } := by
      refine e3.trans ?_
      rw [hf₂, State.calling_eq h.top, State.setFrames_setFrames, State.setTop_of_frames _ hr', hr]
      rfl
    refine ⟨(({ U with heap := s₂.heap, slotsUsed := s₂.slotsUsed } : State).setVm s₂.vm), stand L k n hW' hsm, rfl, rfl, ?_⟩
    rw [← hs₂]
    exact hsteps
  · intro q L k n ho hW₂ hsm
    subst ho
    have e3 := same3 L k n hsm
    have hW' : U.WarmedH s₂.vm := hW₂
    have hf₂ : s₂.frames = .throwing q :: .java g :: U.frames.tail := hend
    have hs₂ : s₂ = ((({ U with heap := s₂.heap, slotsUsed := s₂.slotsUsed } : State).setVm s₂.vm).setTop g).pushFrame (.throwing q) := by
      refine e3.trans ?_
      rw [hf₂, State.calling_eq h.top, State.setFrames_setFrames, State.pushFrame, State.frames_setTop _ hr', State.setTop_of_frames _ hr', State.setFrames_setFrames, hr]
      rfl
    refine ⟨(({ U with heap := s₂.heap, slotsUsed := s₂.slotsUsed } : State).setVm s₂.vm), stand L k n hW' hsm, rfl, rfl, ?_⟩
    rw [← hs₂]
    exact hsteps
/-- the frame as it stands, taken as the start of a method in the heap as it is -/
theorem st_anew {p : Program} {l : Launch} {e : Env} {R R' : Room} {s : State} {m : MethodId} {args : Array Value} {below : List Frame} {meth : Method} {c : Code} {T : State} {locs : List Loc} {cells slots : Nat} (X : Stand p l e R s m args below meth c T locs cells slots) (hf : R'.frames ≤ R.frames) (hl : R'.locals ≤ R.locals) (hc : cells + R'.cells ≤ R.cells) (hs : slots + R'.slots ≤ R.slots) :
    Stand p l e R' ((T.setVm s.vm).setFrames (.invoking m args :: below)) m args below meth c T [] 0 0 := by
  have top : (T.setVm s.vm).topJava?.isSome := X.here.top
  have fr : ((T.setVm s.vm).setFrames (.invoking m args :: below)).frames = .invoking m args :: below := State.frames_setFrames _ (State.cur_lt_of_top top)
  obtain ⟨g₀, hg0⟩ := Option.isSome_iff_exists.mp top
  obtain ⟨r, hr⟩ := State.topJava?_eq_some.mp hg0
  have lim : e.platform.stackLimits (T.setVm s.vm).me = e.platform.stackLimits s.me := X.limits
  have byt : (T.setVm s.vm).me.stackBytes = s.me.stackBytes := X.bytes
  have none : T.heap.toList.drop T.heap.size = [] := List.drop_eq_nil_of_le (Nat.le_of_eq Array.length_toList)
  refine ⟨X.admits, X.cas, X.clock, fr, ?_, X.hears, X.method, X.code, X.here, X.tail, X.warmed, by rw [State.stackLimits_setFrames]; rfl, by rw [State.stackBytes_setFrames]; rfl, ?_⟩
  · have h := X.room
    have use : ((T.setVm s.vm).setFrames (.invoking m args :: below)).localsInUse = s.localsInUse := by
      rw [State.localsInUse_invoking fr (meth := meth) (c := c) X.method X.code, State.localsInUse_invoking X.frames X.method X.code]
    simp only [State.hasRoom, Bool.and_eq_true, decide_eq_true_eq] at h ⊢
    obtain ⟨⟨⟨⟨h1, h2, h3, h4, h5, h6⟩, h7⟩, h8⟩, h9⟩ := h
    rw [X.frames, List.length_cons] at h2 h3
    have q1 := X.heapSize
    have q2 := X.used
    simp only [fr, use, List.length_cons, State.stackLimits_setFrames, State.stackBytes_setFrames, lim, byt]
    refine ⟨⟨⟨⟨by omega, by omega, by omega, by omega, by omega, h6⟩, ?_⟩, ?_⟩, X.book⟩
    · show T.heap.size + R'.cells ≤ e.platform.maxCells
      omega
    · show T.slotsUsed + R'.slots ≤ e.platform.maxSlots
      omega
  · refine ⟨?_, Nat.le_refl _, Nat.le_refl _, ?_, ?_, fun a c9 h9 => ⟨c9, h9, rfl, rfl, fun _ _ => rfl⟩⟩
    · obtain ⟨t, ht, -⟩ := State.frames_cons hr
      show T.setVm s.vm = { ((T.setVm s.vm).setFrames (.invoking m args :: below)).setFrames (T.setVm s.vm).frames with heap := T.heap, slotsUsed := T.slotsUsed }
      rw [State.setFrames_setFrames, State.setFrames_self ht]
      rfl
    · show T.slotsUsed = T.slotsUsed + ((T.heap.toList.drop T.heap.size).map (·.slots.size)).sum
      rw [none]; rfl
    · show ((T.heap.toList.drop T.heap.size).map (·.slots.size)).sum ≤ 0
      rw [none]; exact Nat.le_refl _
/-- what a 'throw new E()' needs of the words -/
def isHW (w : Cond) : Bool := decide (w = .isRef (.static Bundle.tN "UNASSIGNED_STACK" Bundle.steD)) || decide (w = .isRef (.static Bundle.tN "SUPPRESSED_SENTINEL" Bundle.listD)) || decide (w = .laysStatic Bundle.tN "UNASSIGNED_STACK" Bundle.steD) || decide (w = .laysStatic Bundle.tN "SUPPRESSED_SENTINEL" Bundle.listD)
def TW (own : String) (ik ic : Nat) (cls : String) (names : List String) : Prop := Cond.classLink own ik cls ∈ gw ∧ Cond.initialized cls ∈ gw ∧ Bundle.fit cls = true ∧ (∀ n ∈ names, Bundle.fit n = true) ∧ ∀ w ∈ Bundle.ownAtoms0 own ic cls names, w ∈ gw ∨ w ∈ nw ∨ isHW w = true
theorem TW.at {own : String} {ik ic : Nat} {cls : String} {names : List String} {args : Array Value} {s U : State} (h : TW own ik ic cls names) (hg : ∀ w ∈ gw, w.before args s = true) (hn : Nz U) (hz : ∃ A, Sz A U U.heap) (hvm : s.vm = U.vm) : ∀ w ∈ Bundle.ownAtoms0 own ic cls names, w.before args U = true := by
  intro w hw
  obtain ⟨A, hz1, hz2⟩ := hz
  rcases h.2.2.2.2 w hw with h1 | h1 | h1
  · have hW : s.WarmedH U.vm := by rw [← hvm]; exact State.WarmedH.refl s
    exact word_at hW (good_of_word (List.mem_filter.mp h1).2) (hg w h1)
  · have h2 := hn.1 w h1
    have h3 : isNest w = true := (List.mem_filter.mp h1).2
    cases w <;> first | exact va_Nw.use rfl h2 | (simp [isNest] at h3; done)
  · simp only [isHW, Bool.or_eq_true, decide_eq_true_eq] at h1
    rcases h1 with ((rfl | rfl) | rfl) | rfl
    · exact hz1.ref
    · exact hz2.ref
    · exact hz1.lays
    · exact hz2.lays
theorem old_same {s U : State} {k n : Nat} (h : s.sameButNew ({ U with vm := s.vm } : State) [] k n) : s.heap.size ≤ U.heap.size ∧ ∀ q : Nat, q < s.heap.size → U.heap[q]? = s.heap[q]? := by
  obtain ⟨-, h2, -, -, -, h6⟩ := h
  refine ⟨h2, fun q hq => ?_⟩
  obtain ⟨c9, e1, e2, e3, e4⟩ := h6 q _ (Array.getElem?_eq_getElem hq)
  have hs : c9.slots = (s.heap[q]).slots := Array.ext_getElem? fun i => e4 i (by simp)
  have h9 : c9 = s.heap[q] := by
    rw [hs] at e2
    exact e2
  have e5 : U.heap[q]? = some c9 := e1
  rw [e5, h9, Array.getElem?_eq_getElem hq]
set_option maxHeartbeats 1000000 in
theorem CFI.of {l : Launch} {D : va_G} {tys : List (ClassId × FieldType)} {rh : Nat → Nat} {rc : Nat → (Nat → Int32) → va_E} {n : Nat} {y : MethodName} {cc : ByteArray} {nL dp mc ms : Nat} {As : List Value} {σ : St} {F : Int32 × Int32 × St} (hy : plainName y.cls = true) (hL : (lg_sl As).length ≤ nL) (hlt : l.stackTraces = false)
    (body : ∀ (p : Program) (e : Env) (s : State) (m : MethodId) (args : Array Value) (below : List Frame) (meth : Method) (c : Code) (A : Nat → Prop) (Q : State → Prop), Cx p s m args meth c D tys A cc nL y.cls →
      (∀ (pc : Nat) (lv : List (Nat × Value)) (cells slots : Nat) (x : Int32) (s' : St), F = (0, x, s') → cells ≤ mc → slots ≤ ms → decode cc pc = .ok (.ireturn, 1) → Vz p l e (Rq dp mc ms) s m args below meth c D A nL rh rc n cells slots Q pc lv [.int x] s') → (∀ (pc : Nat) (lv : List (Nat × Value)) (st : List Value) (cells slots : Nat) (k : Int32) (s' : St), F = (k, 0, s') → ¬ k = 0 → cells ≤ mc → slots ≤ ms → Tz p l e (Rq dp mc ms) s m args below meth c D A nL rh rc n cells slots Q pc lv st s' (exN k)) → (∀ (pc : Nat) (lv : List (Nat × Value)) (st : List Value) (cells slots : Nat) (k : Int32) (s' : St) {ik ic : Nat} {names : List String}, F = (k, 0, s') → ¬ k = 0 → TW y.cls ik ic (exN k) names → decode cc pc = .ok (.new ik, 3) → decode cc (pc + 3) = .ok (.dup, 1) → decode cc (pc + 4) = .ok (.invokespecial ic, 3) → decode cc (pc + 7) = .ok (.athrow, 1) → cells + 1 ≤ mc → slots + 6 ≤ ms → names.length + 3 < dp → (st.map fun v => v.category).sum + (13 * (names.length + 1) + 42) ≤ 30 * dp → Vz p l e (Rq dp mc ms) s m args below meth c D A nL rh rc n cells slots Q pc lv st s') → Vz p l e (Rq dp mc ms) s m args below meth c D A nL rh rc n 0 0 Q 0 (lv_args 0 As) [] σ) : CFI l D tys rh rc n y cc nL dp mc ms As σ F := by
  intro sz
  refine MetFree.of_bodyS (code := cc) (maxLocals := nL) (ret := (some .int)) hy ?_ ?_
  · intro args s m h hn
    obtain ⟨meth, c, h1, h2, h3, h4, h5, h6, -, -⟩ := Cond.code_spec hn (atoms_spec (ws := Cond.code y cc nL (some .int) :: gw) h _ List.mem_cons_self)
    exact ⟨meth, c, h1, h2, h3, h4, h5, h6⟩
  · intro p e s m args below meth c s₁ B hml hv _
    obtain ⟨rfl, hsz, hP, hK, hN, hZ, hD0⟩ := hv
    subst hsz
    have hh0 : s₁.heap = s.heap := by rw [B.state]; rfl
    have htb : ∀ x ∈ c.exceptionTable.toList, False := by
      obtain ⟨meth9, c9, h1, h2, -, -, -, -, h7, -⟩ := Cond.code_spec B.named (atoms_spec (ws := Cond.code y cc nL (some .int) :: gw) B.pre _ List.mem_cons_self)
      cases Option.some.inj (h1.symm.trans B.method)
      cases Option.some.inj (h2.symm.trans (Stand.of_body B).code)
      intro x hx
      rw [Array.isEmpty_iff.mp h7] at hx
      cases hx
    have hD := hD0.self (sz := s.heap.size)
    have X : Cx p s m As.toArray meth c D tys (va_A (wd rh rc n σ) s.heap.size) cc nL y.cls := ⟨B.exec, B.bytes, hml, findClass_of_methodNamed B.named, fun w h => atoms_spec (ws := Cond.code y cc nL (some .int) :: gw) B.pre w (List.mem_cons_of_mem _ h), hK, hN, fun q h => Or.inr h, B.notSynchronized, hZ, wd_ns hP⟩
    have hl := lv_entry As (n := nL) hL
    obtain ⟨t, a1, o, b1, b2, b3⟩ := body p e s m As.toArray below meth c _ (fun t => ∃ o, t.status = .running ∧ Ended t below o ∧ XQ (va_A (wd rh rc n σ) s.heap.size) mc ms (Bz D rh rc n (va_A (wd rh rc n σ) s.heap.size)) (fun x => some (.int x)) F As.toArray s o t) X (by
        intro pc lv k1 k2 x s' hF hc1 hc2 hd H locs ls hP1 hD1 hS1 hl1 T hT Xs
        have k9 := W.iret (v := x) (p := p) (l := l) (e := e) (m := m) (args := As.toArray) (R := Rq dp mc ms) (below := below) (cells := mc) (slots := ms) (Qc := fun _ st o t => o = .returned (some (.int x)) ∧ Bz D rh rc n (va_A (wd rh rc n σ) s.heap.size) s' t ∧ va_F (va_A (wd rh rc n σ) s.heap.size) st t) (free := va_A (wd rh rc n σ) s.heap.size) (ls := ls) X.1 X.2.1 B.returns (fun t ht hW => ⟨rfl, ⟨by rw [ht]; exact hP1, hD1⟩, hS1.F ht⟩) hS1.2.2 hd B.notSynchronized
        obtain ⟨t, a1, o, b1, b2, ⟨b3, b4, b5⟩, b6⟩ := W.widen hc1 hc2 k9 T hT Xs
        subst hF
        exact ⟨t, a1, o, b1, b2, Or.inl ⟨rfl, b3, b6, b4, b5⟩⟩) (by
        intro pc lv st k1 k2 k s' hF hk hc1 hc2 H locs ls q ce hP1 hD1 hS1 hl1 hce hcv hcl T hT Xs
        obtain ⟨st1, hrun, hendd, hW, hsm⟩ := Xs.leaveThrown q (g := F0 m pc ls st) rfl rfl rfl (fun x hx => absurd (htb x hx) id) B.notSynchronized
        subst hF
        exact ⟨_, st1, .threw q, hrun, hendd, Or.inr ⟨hk, q, ce, locs, rfl, (show T.heap[q]? = some ce by rw [hT]; exact hce), hcv, hcl, hW, hsm.mono hc1 hc2, hS1.2.2, ⟨(show va_P D vwCl _ T.heap by rw [hT]; exact hP1), hD1⟩, hS1.F (show T.heap = H from hT)⟩⟩) (by
        intro pc lv st k1 k2 k s' ik ic names hF hk hw d0 d3 d4 d7 hc1 hc2 hfr hlo H locs ls hP1 hD1 hS1 hl1 T hT Xs
        have htr : e.platform.stackTraces = false := (show e.platform.stackTraces = l.stackTraces by rw [Xs.admits.platform]).trans hlt
        have Y := st_anew Xs (R' := { frames := dp, locals := 30 * dp, cells := 1, slots := 6 }) (Nat.le_refl _) (Nat.le_refl _) hc1 hc2
        obtain ⟨s0, hA⟩ : ∃ z, z = (T.setVm s.vm).setFrames (.invoking m As.toArray :: below) := ⟨_, rfl⟩
        rw [← hA] at Y
        have hvm : s.vm = s0.vm := by rw [hA]; rfl
        have hhp : s0.heap = H := by rw [hA]; exact hT
        have hW0 : s.WarmedH s0.vm := by rw [← hvm]; exact State.WarmedH.refl s
        have hZ0 : Sz (va_A (wd rh rc n σ) s.heap.size) s0 s0.heap := by
          rw [hhp]
          exact hZ.move hW0.alike hS1.2.1 (fun _ h => h)
        have hg0 : ∀ w ∈ gw, w.before As.toArray s0 = true := fun w h => word_at hW0 (good_of_word (List.mem_filter.mp h).2) (X.2.2.2.2.1 w h)
        have hat := hw.at (args := As.toArray) (U := s0) X.2.2.2.2.1 (Nz.same hvm hN) ⟨_, hZ0⟩ hvm
        have hown0 : s0.vm.findClass y.cls = some m.cls := by rw [← hvm]; exact X.2.2.2.1
        obtain ⟨vm₁, cX, kX, hfX, hkX, -, -, X₁, st1⟩ := Y.newCold X.1 (own := y.cls) (C := exN k) (index := ik) (n := 6) hown0 (hg0 _ hw.1) (hat _ (by simp [Bundle.ownAtoms0])) (hg0 _ hw.2.1)
          (g := F0 m pc ls st) rfl (by rw [X.2.1]; exact d0) (Nat.le_refl _) (Nat.le_refl _)
        generalize hT1 : (T.setVm vm₁).pushCell { cls := cX, slots := kX.instanceTypes.map defaultValue, vm := .none } = T1 at X₁ st1
        have hcat : (Value.ref T.heap.size).category = 1 := rfl
        have hcellA : T1.heap[T.heap.size]? = some (freshCell cX kX) := by rw [← hT1]; exact State.heap_pushCell_size _ _
        have d3' : decode c.code (pc + 3) = .ok (.dup, 1) := by rw [X.2.1]; exact d3
        have hmr : (F0 m pc ls st).monitorRoom = 0 := rfl
        obtain ⟨U, hsteps, hrun, hendd, hW, hsame, ce, hce, hO⟩ := X₁.ctorThrow0 X.1 htr (own := y.cls) (cls := exN k) (names := names) (ic := ic) hown0 hw.2.2.1 hw.2.2.2.1 hat (fun x hx => nomatch hx) hfX hkX hcellA (by rw [hhp, hT]; exact Nat.le_refl _)
          (g := { method := m, pc := pc + 4, locals := ls, stack := .ref T.heap.size :: .ref T.heap.size :: st, locked := none }) rfl (hl1.1.trans hml.symm) rfl rfl (rest := st) rfl
          (by rw [X.2.1]; exact d4) (by rw [X.2.1]; exact d7) (fun x hx => absurd (htb x hx) id) hfr (by simp only [List.map_cons, List.sum_cons, hcat]; omega) B.notSynchronized
        obtain ⟨f1, f2⟩ := old_same hsame
        rw [hhp] at f1 f2
        have hWs : s.WarmedH U.vm := State.WarmedH.trans hW0 hW
        have hcl : s.vm.findClass (exN k) = some ce.cls := by rw [hvm]; exact hO.cls
        have hall : s.sameButNew ({ U with vm := s.vm } : State) locs mc ms := by
          subst hA
          obtain ⟨e1, e2⟩ := hsame
          rw [State.setFrames_setFrames] at e1
          have h2 : (T.setVm s.vm).sameButNew ({ U with vm := s.vm } : State) [] (0 + 1) (0 + 6) := ⟨e1, e2⟩
          have h3 := Xs.same.trans h2
          rw [List.append_nil] at h3
          exact h3.mono hc1 hc2
        have hPU : va_P D vwCl (wd rh rc n s') U.heap := fun i q hq => (hP1 i q hq).kept (f2 q.1 (hP1 i q hq).lt)
        subst hF
        refine ⟨U, ?_, .threw T.heap.size, hrun, hendd, Or.inr ⟨hk, T.heap.size, ce, locs, rfl, hce, hO.vm, hcl, hWs, hall, hS1.2.2, ⟨hPU, hD1⟩, ⟨Nat.le_trans hS1.1 f1, fun q h1 h2 => (f2 q (Nat.lt_of_lt_of_le h1 hS1.1)).trans (hS1.2.1 q h1 h2)⟩⟩⟩
        refine st1 _ ?_
        show Steps p.tables e below (T1.setTop { method := m, pc := pc + 3, locals := ls, stack := .ref T.heap.size :: st, locked := none }) _
        jvm_step X₁.here [X₁.here.top, X.1, d3', Value.category]
        exact hsteps) s.heap [] _ hP hD va_S.rf hl s₁ hh0 (Stand.of_body B)
    rw [← lg_entry_eq] at a1
    exact ⟨t, o, a1, b1, b2, b3⟩
set_option maxHeartbeats 1000000 in
theorem CFV.of {l : Launch} {D : va_G} {tys : List (ClassId × FieldType)} {rh : Nat → Nat} {rc : Nat → (Nat → Int32) → va_E} {n : Nat} {y : MethodName} {cc : ByteArray} {nL dp mc ms : Nat} {As : List Value} {σ : St} {F : Int32 × Int32 × St} (hy : plainName y.cls = true) (hL : (lg_sl As).length ≤ nL) (hlt : l.stackTraces = false)
    (body : ∀ (p : Program) (e : Env) (s : State) (m : MethodId) (args : Array Value) (below : List Frame) (meth : Method) (c : Code) (A : Nat → Prop) (Q : State → Prop), Cx p s m args meth c D tys A cc nL y.cls →
      (∀ (pc : Nat) (lv : List (Nat × Value)) (cells slots : Nat) (s' : St), F = (0, 0, s') → cells ≤ mc → slots ≤ ms → decode cc pc = .ok (.return_, 1) → Vz p l e (Rq dp mc ms) s m args below meth c D A nL rh rc n cells slots Q pc lv [] s') → (∀ (pc : Nat) (lv : List (Nat × Value)) (st : List Value) (cells slots : Nat) (k : Int32) (s' : St), F = (k, 0, s') → ¬ k = 0 → cells ≤ mc → slots ≤ ms → Tz p l e (Rq dp mc ms) s m args below meth c D A nL rh rc n cells slots Q pc lv st s' (exN k)) → (∀ (pc : Nat) (lv : List (Nat × Value)) (st : List Value) (cells slots : Nat) (k : Int32) (s' : St) {ik ic : Nat} {names : List String}, F = (k, 0, s') → ¬ k = 0 → TW y.cls ik ic (exN k) names → decode cc pc = .ok (.new ik, 3) → decode cc (pc + 3) = .ok (.dup, 1) → decode cc (pc + 4) = .ok (.invokespecial ic, 3) → decode cc (pc + 7) = .ok (.athrow, 1) → cells + 1 ≤ mc → slots + 6 ≤ ms → names.length + 3 < dp → (st.map fun v => v.category).sum + (13 * (names.length + 1) + 42) ≤ 30 * dp → Vz p l e (Rq dp mc ms) s m args below meth c D A nL rh rc n cells slots Q pc lv st s') → Vz p l e (Rq dp mc ms) s m args below meth c D A nL rh rc n 0 0 Q 0 (lv_args 0 As) [] σ) : CFV l D tys rh rc n y cc nL dp mc ms As σ F := by
  intro sz
  refine MetFree.of_bodyS (code := cc) (maxLocals := nL) (ret := none) hy ?_ ?_
  · intro args s m h hn
    obtain ⟨meth, c, h1, h2, h3, h4, h5, h6, -, -⟩ := Cond.code_spec hn (atoms_spec (ws := Cond.code y cc nL none :: gw) h _ List.mem_cons_self)
    exact ⟨meth, c, h1, h2, h3, h4, h5, h6⟩
  · intro p e s m args below meth c s₁ B hml hv _
    obtain ⟨rfl, hsz, hP, hK, hN, hZ, hD0⟩ := hv
    subst hsz
    have hh0 : s₁.heap = s.heap := by rw [B.state]; rfl
    have htb : ∀ x ∈ c.exceptionTable.toList, False := by
      obtain ⟨meth9, c9, h1, h2, -, -, -, -, h7, -⟩ := Cond.code_spec B.named (atoms_spec (ws := Cond.code y cc nL none :: gw) B.pre _ List.mem_cons_self)
      cases Option.some.inj (h1.symm.trans B.method)
      cases Option.some.inj (h2.symm.trans (Stand.of_body B).code)
      intro x hx
      rw [Array.isEmpty_iff.mp h7] at hx
      cases hx
    have hD := hD0.self (sz := s.heap.size)
    have X : Cx p s m As.toArray meth c D tys (va_A (wd rh rc n σ) s.heap.size) cc nL y.cls := ⟨B.exec, B.bytes, hml, findClass_of_methodNamed B.named, fun w h => atoms_spec (ws := Cond.code y cc nL none :: gw) B.pre w (List.mem_cons_of_mem _ h), hK, hN, fun q h => Or.inr h, B.notSynchronized, hZ, wd_ns hP⟩
    have hl := lv_entry As (n := nL) hL
    obtain ⟨t, a1, o, b1, b2, b3⟩ := body p e s m As.toArray below meth c _ (fun t => ∃ o, t.status = .running ∧ Ended t below o ∧ XQ (va_A (wd rh rc n σ) s.heap.size) mc ms (Bz D rh rc n (va_A (wd rh rc n σ) s.heap.size)) (fun _ => none) F As.toArray s o t) X (by
        intro pc lv k1 k2 s' hF hc1 hc2 hd H locs ls hP1 hD1 hS1 hl1 T hT Xs
        have k9 := W.vret (p := p) (l := l) (e := e) (m := m) (args := As.toArray) (R := Rq dp mc ms) (below := below) (cells := mc) (slots := ms) (Qc := fun _ st o t => o = .returned (none) ∧ Bz D rh rc n (va_A (wd rh rc n σ) s.heap.size) s' t ∧ va_F (va_A (wd rh rc n σ) s.heap.size) st t) (free := va_A (wd rh rc n σ) s.heap.size) (ls := ls) X.1 X.2.1 B.returns (fun t ht hW => ⟨rfl, ⟨by rw [ht]; exact hP1, hD1⟩, hS1.F ht⟩) hS1.2.2 hd B.notSynchronized
        obtain ⟨t, a1, o, b1, b2, ⟨b3, b4, b5⟩, b6⟩ := W.widen hc1 hc2 k9 T hT Xs
        subst hF
        exact ⟨t, a1, o, b1, b2, Or.inl ⟨rfl, b3, b6, b4, b5⟩⟩) (by
        intro pc lv st k1 k2 k s' hF hk hc1 hc2 H locs ls q ce hP1 hD1 hS1 hl1 hce hcv hcl T hT Xs
        obtain ⟨st1, hrun, hendd, hW, hsm⟩ := Xs.leaveThrown q (g := F0 m pc ls st) rfl rfl rfl (fun x hx => absurd (htb x hx) id) B.notSynchronized
        subst hF
        exact ⟨_, st1, .threw q, hrun, hendd, Or.inr ⟨hk, q, ce, locs, rfl, (show T.heap[q]? = some ce by rw [hT]; exact hce), hcv, hcl, hW, hsm.mono hc1 hc2, hS1.2.2, ⟨(show va_P D vwCl _ T.heap by rw [hT]; exact hP1), hD1⟩, hS1.F (show T.heap = H from hT)⟩⟩) (by
        intro pc lv st k1 k2 k s' ik ic names hF hk hw d0 d3 d4 d7 hc1 hc2 hfr hlo H locs ls hP1 hD1 hS1 hl1 T hT Xs
        have htr : e.platform.stackTraces = false := (show e.platform.stackTraces = l.stackTraces by rw [Xs.admits.platform]).trans hlt
        have Y := st_anew Xs (R' := { frames := dp, locals := 30 * dp, cells := 1, slots := 6 }) (Nat.le_refl _) (Nat.le_refl _) hc1 hc2
        obtain ⟨s0, hA⟩ : ∃ z, z = (T.setVm s.vm).setFrames (.invoking m As.toArray :: below) := ⟨_, rfl⟩
        rw [← hA] at Y
        have hvm : s.vm = s0.vm := by rw [hA]; rfl
        have hhp : s0.heap = H := by rw [hA]; exact hT
        have hW0 : s.WarmedH s0.vm := by rw [← hvm]; exact State.WarmedH.refl s
        have hZ0 : Sz (va_A (wd rh rc n σ) s.heap.size) s0 s0.heap := by
          rw [hhp]
          exact hZ.move hW0.alike hS1.2.1 (fun _ h => h)
        have hg0 : ∀ w ∈ gw, w.before As.toArray s0 = true := fun w h => word_at hW0 (good_of_word (List.mem_filter.mp h).2) (X.2.2.2.2.1 w h)
        have hat := hw.at (args := As.toArray) (U := s0) X.2.2.2.2.1 (Nz.same hvm hN) ⟨_, hZ0⟩ hvm
        have hown0 : s0.vm.findClass y.cls = some m.cls := by rw [← hvm]; exact X.2.2.2.1
        obtain ⟨vm₁, cX, kX, hfX, hkX, -, -, X₁, st1⟩ := Y.newCold X.1 (own := y.cls) (C := exN k) (index := ik) (n := 6) hown0 (hg0 _ hw.1) (hat _ (by simp [Bundle.ownAtoms0])) (hg0 _ hw.2.1)
          (g := F0 m pc ls st) rfl (by rw [X.2.1]; exact d0) (Nat.le_refl _) (Nat.le_refl _)
        generalize hT1 : (T.setVm vm₁).pushCell { cls := cX, slots := kX.instanceTypes.map defaultValue, vm := .none } = T1 at X₁ st1
        have hcat : (Value.ref T.heap.size).category = 1 := rfl
        have hcellA : T1.heap[T.heap.size]? = some (freshCell cX kX) := by rw [← hT1]; exact State.heap_pushCell_size _ _
        have d3' : decode c.code (pc + 3) = .ok (.dup, 1) := by rw [X.2.1]; exact d3
        have hmr : (F0 m pc ls st).monitorRoom = 0 := rfl
        obtain ⟨U, hsteps, hrun, hendd, hW, hsame, ce, hce, hO⟩ := X₁.ctorThrow0 X.1 htr (own := y.cls) (cls := exN k) (names := names) (ic := ic) hown0 hw.2.2.1 hw.2.2.2.1 hat (fun x hx => nomatch hx) hfX hkX hcellA (by rw [hhp, hT]; exact Nat.le_refl _)
          (g := { method := m, pc := pc + 4, locals := ls, stack := .ref T.heap.size :: .ref T.heap.size :: st, locked := none }) rfl (hl1.1.trans hml.symm) rfl rfl (rest := st) rfl
          (by rw [X.2.1]; exact d4) (by rw [X.2.1]; exact d7) (fun x hx => absurd (htb x hx) id) hfr (by simp only [List.map_cons, List.sum_cons, hcat]; omega) B.notSynchronized
        obtain ⟨f1, f2⟩ := old_same hsame
        rw [hhp] at f1 f2
        have hWs : s.WarmedH U.vm := State.WarmedH.trans hW0 hW
        have hcl : s.vm.findClass (exN k) = some ce.cls := by rw [hvm]; exact hO.cls
        have hall : s.sameButNew ({ U with vm := s.vm } : State) locs mc ms := by
          subst hA
          obtain ⟨e1, e2⟩ := hsame
          rw [State.setFrames_setFrames] at e1
          have h2 : (T.setVm s.vm).sameButNew ({ U with vm := s.vm } : State) [] (0 + 1) (0 + 6) := ⟨e1, e2⟩
          have h3 := Xs.same.trans h2
          rw [List.append_nil] at h3
          exact h3.mono hc1 hc2
        have hPU : va_P D vwCl (wd rh rc n s') U.heap := fun i q hq => (hP1 i q hq).kept (f2 q.1 (hP1 i q hq).lt)
        subst hF
        refine ⟨U, ?_, .threw T.heap.size, hrun, hendd, Or.inr ⟨hk, T.heap.size, ce, locs, rfl, hce, hO.vm, hcl, hWs, hall, hS1.2.2, ⟨hPU, hD1⟩, ⟨Nat.le_trans hS1.1 f1, fun q h1 h2 => (f2 q (Nat.lt_of_lt_of_le h1 hS1.1)).trans (hS1.2.1 q h1 h2)⟩⟩⟩
        refine st1 _ ?_
        show Steps p.tables e below (T1.setTop { method := m, pc := pc + 3, locals := ls, stack := .ref T.heap.size :: st, locked := none }) _
        jvm_step X₁.here [X₁.here.top, X.1, d3', Value.category]
        exact hsteps) s.heap [] _ hP hD va_S.rf hl s₁ hh0 (Stand.of_body B)
    rw [← lg_entry_eq] at a1
    exact ⟨t, o, a1, b1, b2, b3⟩
section VZXC
variable {p : Program} {l : Launch} {e : Env} {R : Room} {s : State} {m : MethodId} {args : Array Value} {below : List Frame} {meth : Method} {c : Code} {D : va_G} {tys : List (ClassId × FieldType)} {A : Nat → Prop} {cc : ByteArray} {nL : Nat} {own : String} {rh : Nat → Nat} {rc : Nat → (Nat → Int32) → va_E} {n : Nat} {cells slots : Nat} {Q : State → Prop} {pc : Nat} {lv lv' : List (Nat × Value)} {st : List Value} {σ : St}
set_option maxHeartbeats 1000000 in
theorem v_callS_CFI (X : Cx p s m args meth c D tys A cc nL own) {y : MethodName} {bytes : ByteArray} {nL' dp mc ms ix kA : Nat} {rest : List Value} {F : Int32 × Int32 × St} (As : List Value) (hC : CFI l D tys rh rc n y bytes nL' dp mc ms As σ F) (hm : MF y bytes nL' (some .int) kA) (hst : Cond.static y ∈ gw) (hlk : Cond.methodLink own ix y ∈ gw) (hA : As.length = kA) (hR : (Rq dp mc ms).frames + 1 ≤ R.frames ∧ 8 + (nL' + 11) + (Rq dp mc ms).locals ≤ R.locals) (hrm : (rest.map fun v => v.category).sum ≤ 8) (hf : cells + mc ≤ R.cells ∧ slots + ms ≤ R.slots) (d : decode cc pc = .ok (.invokestatic ix, 3))
    (kx : ¬ F.1 = 0 → Tz p l e R s m args below meth c D A nL rh rc n (cells + mc) (slots + ms) Q pc lv rest F.2.2 (exN F.1)) (kk : F.1 = 0 → Vz p l e R s m args below meth c D A nL rh rc n (cells + mc) (slots + ms) Q (pc + 3) lv (.int F.2.1 :: rest) F.2.2) : Vz p l e R s m args below meth c D A nL rh rc n cells slots Q pc lv (As.reverse ++ rest) σ := by
  intro H locs ls hP hD hS hl T hT Xs
  have hFc := vz_free X hD hS
  have hts := X.2.2.2.2.1
  have hlen : ∀ sig, parseMethodDescriptor y.desc = some sig → As.length = sig.parameters.length := by
    intro sig h
    have h2 := hm.2.2.2.2
    rw [h] at h2
    exact hA.trans (Option.some.inj h2).symm
  obtain ⟨mk, hnamed⟩ := Cond.code_named (hts _ hm.1)
  obtain ⟨methM, cM, hmethM, hcM, -, hlM, -, -, -, hsigM⟩ := Cond.code_spec hnamed (hts _ hm.1)
  have hstatic : methM.isStatic = true := Cond.static_spec hnamed hmethM (hts _ hst)
  obtain ⟨kP, hkP, -⟩ := className_of_methodNamed hnamed
  have hinitP : kP.init = .initialized := Cond.initialized_spec (findClass_of_methodNamed hnamed) hkP (hts _ hm.2.1)
  obtain ⟨vm₁, X₁, hstep₁⟩ := Xs.invokestatic X.1 X.2.2.2.1 (hts _ hlk) hnamed hmethM hstatic hkP hinitP ⟨hm.2.2.1, hm.2.2.2.1⟩ (g := F0 m pc ls (As.reverse ++ rest)) rfl (argsL := As) (rest := rest) (hlen _ hsigM) rfl (by rw [X.2.1]; exact d)
  have hml : (T.setVm vm₁).vm.method? mk = some methM := by rw [X₁.warmed.alike.method?]; exact hmethM
  obtain ⟨o, s₂, hq, kr, kt⟩ := xcall (a := (As : List Value).toArray) (g := F0 m pc ls rest) (maxL := nL') (len := 3) X₁ (hC H.size) (fun w h => by
      rcases List.mem_cons.mp h with rfl | h
      · exact word_at X₁.warmed (good_of_word (List.mem_filter.mp hm.1).2) (hts _ hm.1)
      · exact word_at X₁.warmed (good_of_word (List.mem_filter.mp h).2) (hts _ h)) (fun mY cY g1 g2 => by cases Option.some.inj (g1.symm.trans hml); cases Option.some.inj (g2.symm.trans hcM); exact hlM) ⟨methM, cM, hml, hcM⟩
    (word_at X₁.warmed (good_of_word (List.mem_filter.mp hm.2.1).2) (hts _ hm.2.1)) hf.1 hf.2 hR.1 hR.2
    (Pz.blind _ _ _ _ ⟨rfl, by show T.heap.size = H.size; rw [hT], by show va_P D vwCl _ T.heap; rw [hT]; exact hP, va_K.moved X₁.warmed.alike X.2.2.2.2.2.1, Nz.warm X₁.warmed X.2.2.2.2.2.2.1, Sz.move X.2.2.2.2.2.2.2.2.2.1 X₁.warmed.alike (fun a9 h8 h9 => by show T.heap[a9]? = _; rw [hT]; exact hS.2.1 a9 h8 h9) hFc, hD.weaken (fun _ _ _ _ => trivial)⟩)
    rfl (hl.1.trans X.2.2.1.symm) (by rw [X.2.1]; exact d) (lv_room hrm) (X₁.named hnamed)
  have hH : ((T.setVm vm₁).calling (F0 m pc ls rest) mk (As : List Value).toArray).heap = H := hT
  have keep : ∀ (L : List Loc) (t : State), (∀ z ∈ L, va_A (wd rh rc n σ) H.size z.base) → va_F (va_A (wd rh rc n σ) H.size) ((T.setVm vm₁).calling (F0 m pc ls rest) mk (As : List Value).toArray) t → va_S A s.heap t.heap (locs ++ L) := by
    intro L t hL hF
    obtain ⟨hz, hk⟩ := hF
    rw [hH] at hz hk
    refine ⟨Nat.le_trans hS.1 hz, fun q h1 h2 => ?_, fun z hz2 => ?_⟩
    · rw [hk q (Nat.lt_of_lt_of_le h1 hS.1) (fun z => h2 (hFc q z))]
      exact hS.2.1 q h1 h2
    · rcases List.mem_append.mp hz2 with h | h
      · exact hS.2.2 z h
      · exact hFc _ (hL z h)
  rcases hq with ⟨h0, ho, ⟨L, hfe, hL⟩, ⟨hP1, hD1⟩, hF⟩ | ⟨h0, q, ce, L, ho, hce, hcv, hcl, hW2, hsm, hL, ⟨hP1, hD1⟩, hF⟩
  · obtain ⟨T', X', e1, e2, hst9⟩ := kr _ L mc ms ho hfe
    obtain ⟨t2, a1, b1⟩ := kk h0 s₂.heap (locs ++ L) ls hP1 (hD1.weaken (fun _ _ _ h => hFc _ h)) (keep L s₂ hL hF) hl T' e1 X'
    exact ⟨t2, hstep₁ _ fun acts => by rw [doInvoke_state]; exact hst9.trans a1, b1⟩
  · obtain ⟨T', X', e1, e2, hst9⟩ := kt q L mc ms ho hW2 hsm
    have hcl2 : s.vm.findClass (exN F.1) = some ce.cls := by
      have h9 : (T.setVm vm₁).vm.findClass (exN F.1) = some ce.cls := hcl
      rw [X₁.warmed.alike.findClass] at h9
      exact h9
    obtain ⟨t2, a1, b1⟩ := kx h0 s₂.heap (locs ++ L) ls q ce hP1 (hD1.weaken (fun _ _ _ h => hFc _ h)) (keep L s₂ hL hF) hl hce hcv hcl2 T' e1 X'
    exact ⟨t2, hstep₁ _ fun acts => by rw [doInvoke_state]; exact hst9.trans a1, b1⟩
set_option maxHeartbeats 1000000 in
theorem v_callV_CFI (X : Cx p s m args meth c D tys A cc nL own) {y : MethodName} {bytes : ByteArray} {nL' dp mc ms ix kA : Nat} {i ci N : Nat} {T : u_T} {G : (Nat → Int32) → List Value} {rest : List Value} {F : Int32 × Int32 × St} (As : List Value) (hC : CFI l D tys rh rc n y bytes nL' dp mc ms (.ref (rh i) :: As) σ F) (hm : MF y bytes nL' (some .int) kA) (hins : Cond.instanceMethod y ∈ gw) (hsel : Cond.selects y.cls y y ∈ gw) (hi : i < n) (hr : ∀ f, rc i f = .inr (ci, G f)) (hc : vwCl[ci]? = some (y.cls, T, N)) (hlk : Cond.methodLink own ix y ∈ gw) (hA : As.length = kA) (hR : (Rq dp mc ms).frames + 1 ≤ R.frames ∧ 8 + (nL' + 11) + (Rq dp mc ms).locals ≤ R.locals) (hrm : (rest.map fun v => v.category).sum ≤ 8) (hf : cells + mc ≤ R.cells ∧ slots + ms ≤ R.slots) (d : decode cc pc = .ok (.invokevirtual ix, 3))
    (kx : ¬ F.1 = 0 → Tz p l e R s m args below meth c D A nL rh rc n (cells + mc) (slots + ms) Q pc lv rest F.2.2 (exN F.1)) (kk : F.1 = 0 → Vz p l e R s m args below meth c D A nL rh rc n (cells + mc) (slots + ms) Q (pc + 3) lv (.int F.2.1 :: rest) F.2.2) : Vz p l e R s m args below meth c D A nL rh rc n cells slots Q pc lv (As.reverse ++ .ref (rh i) :: rest) σ := by
  intro H locs ls hP hD hS hl T hT Xs
  have hFc := vz_free X hD hS
  have hts := X.2.2.2.2.1
  have hlen : ∀ sig, parseMethodDescriptor y.desc = some sig → As.length = sig.parameters.length := by
    intro sig h
    have h2 := hm.2.2.2.2
    rw [h] at h2
    exact hA.trans (Option.some.inj h2).symm
  obtain ⟨mk, methM, hnamed, hmethM, hstM, habM⟩ := Cond.instanceMethod_spec (hts _ hins)
  obtain ⟨methM', cM, hmethM', hcM, -, hlM, -, -, -, hsigM⟩ := Cond.code_spec hnamed (hts _ hm.1)
  cases hmethM.symm.trans hmethM'
  obtain ⟨cellB, hcB, hoB, hclB⟩ := va_recv X.2.2.2.2.2.1 hP hc (show (wd rh rc n σ)[i]? = some (rh i, .inr (ci, G (σ i))) by rw [wd_at hi, hr])
  obtain ⟨c2, r2, m2, q1, q2, q3, q4, kP, hkP, hkPi⟩ := Cond.selects_spec (hts _ hsel)
  cases hclB.symm.trans q1
  cases (State.methodFound?_of_named hnamed ⟨hm.2.2.1, hm.2.2.2.1⟩).symm.trans q2
  cases hnamed.symm.trans q3
  have hselP : selectMethod e.platform s.vm cellB.cls mk = .method mk := by rw [Launch.admits_selectMethod Xs.admits]; exact q4
  obtain ⟨vm₁, X₁, hstep₁⟩ := Xs.invokevirtual X.1 X.2.2.2.1 (hts _ hlk) hnamed hmethM hstM hkP hkPi ⟨hm.2.2.1, hm.2.2.2.1⟩ (a := rh i) (cell := cellB) (by rw [hT]; exact hcB)
    (fun z h => by rw [h] at hoB; cases hoB) hselP hmethM habM hkP hkPi (g := F0 m pc ls (As.reverse ++ .ref (rh i) :: rest)) rfl (argsL := As) (rest := rest) (hlen _ hsigM) rfl (by rw [X.2.1]; exact d)
  have hml : (T.setVm vm₁).vm.method? mk = some methM := by rw [X₁.warmed.alike.method?]; exact hmethM
  obtain ⟨o, s₂, hq, kr, kt⟩ := xcall (a := ((.ref (rh i) :: As) : List Value).toArray) (g := F0 m pc ls rest) (maxL := nL') (len := 3) X₁ (hC H.size) (fun w h => by
      rcases List.mem_cons.mp h with rfl | h
      · exact word_at X₁.warmed (good_of_word (List.mem_filter.mp hm.1).2) (hts _ hm.1)
      · exact word_at X₁.warmed (good_of_word (List.mem_filter.mp h).2) (hts _ h)) (fun mY cY g1 g2 => by cases Option.some.inj (g1.symm.trans hml); cases Option.some.inj (g2.symm.trans hcM); exact hlM) ⟨methM, cM, hml, hcM⟩
    (word_at X₁.warmed (good_of_word (List.mem_filter.mp hm.2.1).2) (hts _ hm.2.1)) hf.1 hf.2 hR.1 hR.2
    (Pz.blind _ _ _ _ ⟨rfl, by show T.heap.size = H.size; rw [hT], by show va_P D vwCl _ T.heap; rw [hT]; exact hP, va_K.moved X₁.warmed.alike X.2.2.2.2.2.1, Nz.warm X₁.warmed X.2.2.2.2.2.2.1, Sz.move X.2.2.2.2.2.2.2.2.2.1 X₁.warmed.alike (fun a9 h8 h9 => by show T.heap[a9]? = _; rw [hT]; exact hS.2.1 a9 h8 h9) hFc, hD.weaken (fun _ _ _ _ => trivial)⟩)
    rfl (hl.1.trans X.2.2.1.symm) (by rw [X.2.1]; exact d) (lv_room hrm) (X₁.named hnamed)
  have hH : ((T.setVm vm₁).calling (F0 m pc ls rest) mk ((.ref (rh i) :: As) : List Value).toArray).heap = H := hT
  have keep : ∀ (L : List Loc) (t : State), (∀ z ∈ L, va_A (wd rh rc n σ) H.size z.base) → va_F (va_A (wd rh rc n σ) H.size) ((T.setVm vm₁).calling (F0 m pc ls rest) mk ((.ref (rh i) :: As) : List Value).toArray) t → va_S A s.heap t.heap (locs ++ L) := by
    intro L t hL hF
    obtain ⟨hz, hk⟩ := hF
    rw [hH] at hz hk
    refine ⟨Nat.le_trans hS.1 hz, fun q h1 h2 => ?_, fun z hz2 => ?_⟩
    · rw [hk q (Nat.lt_of_lt_of_le h1 hS.1) (fun z => h2 (hFc q z))]
      exact hS.2.1 q h1 h2
    · rcases List.mem_append.mp hz2 with h | h
      · exact hS.2.2 z h
      · exact hFc _ (hL z h)
  rcases hq with ⟨h0, ho, ⟨L, hfe, hL⟩, ⟨hP1, hD1⟩, hF⟩ | ⟨h0, q, ce, L, ho, hce, hcv, hcl, hW2, hsm, hL, ⟨hP1, hD1⟩, hF⟩
  · obtain ⟨T', X', e1, e2, hst9⟩ := kr _ L mc ms ho hfe
    obtain ⟨t2, a1, b1⟩ := kk h0 s₂.heap (locs ++ L) ls hP1 (hD1.weaken (fun _ _ _ h => hFc _ h)) (keep L s₂ hL hF) hl T' e1 X'
    exact ⟨t2, hstep₁ _ fun acts => by rw [doInvoke_state]; exact hst9.trans a1, b1⟩
  · obtain ⟨T', X', e1, e2, hst9⟩ := kt q L mc ms ho hW2 hsm
    have hcl2 : s.vm.findClass (exN F.1) = some ce.cls := by
      have h9 : (T.setVm vm₁).vm.findClass (exN F.1) = some ce.cls := hcl
      rw [X₁.warmed.alike.findClass] at h9
      exact h9
    obtain ⟨t2, a1, b1⟩ := kx h0 s₂.heap (locs ++ L) ls q ce hP1 (hD1.weaken (fun _ _ _ h => hFc _ h)) (keep L s₂ hL hF) hl hce hcv hcl2 T' e1 X'
    exact ⟨t2, hstep₁ _ fun acts => by rw [doInvoke_state]; exact hst9.trans a1, b1⟩
set_option maxHeartbeats 1000000 in
theorem v_callS_CFV (X : Cx p s m args meth c D tys A cc nL own) {y : MethodName} {bytes : ByteArray} {nL' dp mc ms ix kA : Nat} {rest : List Value} {F : Int32 × Int32 × St} (As : List Value) (hC : CFV l D tys rh rc n y bytes nL' dp mc ms As σ F) (hm : MF y bytes nL' none kA) (hst : Cond.static y ∈ gw) (hlk : Cond.methodLink own ix y ∈ gw) (hA : As.length = kA) (hR : (Rq dp mc ms).frames + 1 ≤ R.frames ∧ 8 + (nL' + 11) + (Rq dp mc ms).locals ≤ R.locals) (hrm : (rest.map fun v => v.category).sum ≤ 8) (hf : cells + mc ≤ R.cells ∧ slots + ms ≤ R.slots) (d : decode cc pc = .ok (.invokestatic ix, 3))
    (kx : ¬ F.1 = 0 → Tz p l e R s m args below meth c D A nL rh rc n (cells + mc) (slots + ms) Q pc lv rest F.2.2 (exN F.1)) (kk : F.1 = 0 → Vz p l e R s m args below meth c D A nL rh rc n (cells + mc) (slots + ms) Q (pc + 3) lv rest F.2.2) : Vz p l e R s m args below meth c D A nL rh rc n cells slots Q pc lv (As.reverse ++ rest) σ := by
  intro H locs ls hP hD hS hl T hT Xs
  have hFc := vz_free X hD hS
  have hts := X.2.2.2.2.1
  have hlen : ∀ sig, parseMethodDescriptor y.desc = some sig → As.length = sig.parameters.length := by
    intro sig h
    have h2 := hm.2.2.2.2
    rw [h] at h2
    exact hA.trans (Option.some.inj h2).symm
  obtain ⟨mk, hnamed⟩ := Cond.code_named (hts _ hm.1)
  obtain ⟨methM, cM, hmethM, hcM, -, hlM, -, -, -, hsigM⟩ := Cond.code_spec hnamed (hts _ hm.1)
  have hstatic : methM.isStatic = true := Cond.static_spec hnamed hmethM (hts _ hst)
  obtain ⟨kP, hkP, -⟩ := className_of_methodNamed hnamed
  have hinitP : kP.init = .initialized := Cond.initialized_spec (findClass_of_methodNamed hnamed) hkP (hts _ hm.2.1)
  obtain ⟨vm₁, X₁, hstep₁⟩ := Xs.invokestatic X.1 X.2.2.2.1 (hts _ hlk) hnamed hmethM hstatic hkP hinitP ⟨hm.2.2.1, hm.2.2.2.1⟩ (g := F0 m pc ls (As.reverse ++ rest)) rfl (argsL := As) (rest := rest) (hlen _ hsigM) rfl (by rw [X.2.1]; exact d)
  have hml : (T.setVm vm₁).vm.method? mk = some methM := by rw [X₁.warmed.alike.method?]; exact hmethM
  obtain ⟨o, s₂, hq, kr, kt⟩ := xcall (a := (As : List Value).toArray) (g := F0 m pc ls rest) (maxL := nL') (len := 3) X₁ (hC H.size) (fun w h => by
      rcases List.mem_cons.mp h with rfl | h
      · exact word_at X₁.warmed (good_of_word (List.mem_filter.mp hm.1).2) (hts _ hm.1)
      · exact word_at X₁.warmed (good_of_word (List.mem_filter.mp h).2) (hts _ h)) (fun mY cY g1 g2 => by cases Option.some.inj (g1.symm.trans hml); cases Option.some.inj (g2.symm.trans hcM); exact hlM) ⟨methM, cM, hml, hcM⟩
    (word_at X₁.warmed (good_of_word (List.mem_filter.mp hm.2.1).2) (hts _ hm.2.1)) hf.1 hf.2 hR.1 hR.2
    (Pz.blind _ _ _ _ ⟨rfl, by show T.heap.size = H.size; rw [hT], by show va_P D vwCl _ T.heap; rw [hT]; exact hP, va_K.moved X₁.warmed.alike X.2.2.2.2.2.1, Nz.warm X₁.warmed X.2.2.2.2.2.2.1, Sz.move X.2.2.2.2.2.2.2.2.2.1 X₁.warmed.alike (fun a9 h8 h9 => by show T.heap[a9]? = _; rw [hT]; exact hS.2.1 a9 h8 h9) hFc, hD.weaken (fun _ _ _ _ => trivial)⟩)
    rfl (hl.1.trans X.2.2.1.symm) (by rw [X.2.1]; exact d) (lv_room hrm) (X₁.named hnamed)
  have hH : ((T.setVm vm₁).calling (F0 m pc ls rest) mk (As : List Value).toArray).heap = H := hT
  have keep : ∀ (L : List Loc) (t : State), (∀ z ∈ L, va_A (wd rh rc n σ) H.size z.base) → va_F (va_A (wd rh rc n σ) H.size) ((T.setVm vm₁).calling (F0 m pc ls rest) mk (As : List Value).toArray) t → va_S A s.heap t.heap (locs ++ L) := by
    intro L t hL hF
    obtain ⟨hz, hk⟩ := hF
    rw [hH] at hz hk
    refine ⟨Nat.le_trans hS.1 hz, fun q h1 h2 => ?_, fun z hz2 => ?_⟩
    · rw [hk q (Nat.lt_of_lt_of_le h1 hS.1) (fun z => h2 (hFc q z))]
      exact hS.2.1 q h1 h2
    · rcases List.mem_append.mp hz2 with h | h
      · exact hS.2.2 z h
      · exact hFc _ (hL z h)
  rcases hq with ⟨h0, ho, ⟨L, hfe, hL⟩, ⟨hP1, hD1⟩, hF⟩ | ⟨h0, q, ce, L, ho, hce, hcv, hcl, hW2, hsm, hL, ⟨hP1, hD1⟩, hF⟩
  · obtain ⟨T', X', e1, e2, hst9⟩ := kr _ L mc ms ho hfe
    obtain ⟨t2, a1, b1⟩ := kk h0 s₂.heap (locs ++ L) ls hP1 (hD1.weaken (fun _ _ _ h => hFc _ h)) (keep L s₂ hL hF) hl T' e1 X'
    exact ⟨t2, hstep₁ _ fun acts => by rw [doInvoke_state]; exact hst9.trans a1, b1⟩
  · obtain ⟨T', X', e1, e2, hst9⟩ := kt q L mc ms ho hW2 hsm
    have hcl2 : s.vm.findClass (exN F.1) = some ce.cls := by
      have h9 : (T.setVm vm₁).vm.findClass (exN F.1) = some ce.cls := hcl
      rw [X₁.warmed.alike.findClass] at h9
      exact h9
    obtain ⟨t2, a1, b1⟩ := kx h0 s₂.heap (locs ++ L) ls q ce hP1 (hD1.weaken (fun _ _ _ h => hFc _ h)) (keep L s₂ hL hF) hl hce hcv hcl2 T' e1 X'
    exact ⟨t2, hstep₁ _ fun acts => by rw [doInvoke_state]; exact hst9.trans a1, b1⟩
set_option maxHeartbeats 1000000 in
theorem v_callV_CFV (X : Cx p s m args meth c D tys A cc nL own) {y : MethodName} {bytes : ByteArray} {nL' dp mc ms ix kA : Nat} {i ci N : Nat} {T : u_T} {G : (Nat → Int32) → List Value} {rest : List Value} {F : Int32 × Int32 × St} (As : List Value) (hC : CFV l D tys rh rc n y bytes nL' dp mc ms (.ref (rh i) :: As) σ F) (hm : MF y bytes nL' none kA) (hins : Cond.instanceMethod y ∈ gw) (hsel : Cond.selects y.cls y y ∈ gw) (hi : i < n) (hr : ∀ f, rc i f = .inr (ci, G f)) (hc : vwCl[ci]? = some (y.cls, T, N)) (hlk : Cond.methodLink own ix y ∈ gw) (hA : As.length = kA) (hR : (Rq dp mc ms).frames + 1 ≤ R.frames ∧ 8 + (nL' + 11) + (Rq dp mc ms).locals ≤ R.locals) (hrm : (rest.map fun v => v.category).sum ≤ 8) (hf : cells + mc ≤ R.cells ∧ slots + ms ≤ R.slots) (d : decode cc pc = .ok (.invokevirtual ix, 3))
    (kx : ¬ F.1 = 0 → Tz p l e R s m args below meth c D A nL rh rc n (cells + mc) (slots + ms) Q pc lv rest F.2.2 (exN F.1)) (kk : F.1 = 0 → Vz p l e R s m args below meth c D A nL rh rc n (cells + mc) (slots + ms) Q (pc + 3) lv rest F.2.2) : Vz p l e R s m args below meth c D A nL rh rc n cells slots Q pc lv (As.reverse ++ .ref (rh i) :: rest) σ := by
  intro H locs ls hP hD hS hl T hT Xs
  have hFc := vz_free X hD hS
  have hts := X.2.2.2.2.1
  have hlen : ∀ sig, parseMethodDescriptor y.desc = some sig → As.length = sig.parameters.length := by
    intro sig h
    have h2 := hm.2.2.2.2
    rw [h] at h2
    exact hA.trans (Option.some.inj h2).symm
  obtain ⟨mk, methM, hnamed, hmethM, hstM, habM⟩ := Cond.instanceMethod_spec (hts _ hins)
  obtain ⟨methM', cM, hmethM', hcM, -, hlM, -, -, -, hsigM⟩ := Cond.code_spec hnamed (hts _ hm.1)
  cases hmethM.symm.trans hmethM'
  obtain ⟨cellB, hcB, hoB, hclB⟩ := va_recv X.2.2.2.2.2.1 hP hc (show (wd rh rc n σ)[i]? = some (rh i, .inr (ci, G (σ i))) by rw [wd_at hi, hr])
  obtain ⟨c2, r2, m2, q1, q2, q3, q4, kP, hkP, hkPi⟩ := Cond.selects_spec (hts _ hsel)
  cases hclB.symm.trans q1
  cases (State.methodFound?_of_named hnamed ⟨hm.2.2.1, hm.2.2.2.1⟩).symm.trans q2
  cases hnamed.symm.trans q3
  have hselP : selectMethod e.platform s.vm cellB.cls mk = .method mk := by rw [Launch.admits_selectMethod Xs.admits]; exact q4
  obtain ⟨vm₁, X₁, hstep₁⟩ := Xs.invokevirtual X.1 X.2.2.2.1 (hts _ hlk) hnamed hmethM hstM hkP hkPi ⟨hm.2.2.1, hm.2.2.2.1⟩ (a := rh i) (cell := cellB) (by rw [hT]; exact hcB)
    (fun z h => by rw [h] at hoB; cases hoB) hselP hmethM habM hkP hkPi (g := F0 m pc ls (As.reverse ++ .ref (rh i) :: rest)) rfl (argsL := As) (rest := rest) (hlen _ hsigM) rfl (by rw [X.2.1]; exact d)
  have hml : (T.setVm vm₁).vm.method? mk = some methM := by rw [X₁.warmed.alike.method?]; exact hmethM
  obtain ⟨o, s₂, hq, kr, kt⟩ := xcall (a := ((.ref (rh i) :: As) : List Value).toArray) (g := F0 m pc ls rest) (maxL := nL') (len := 3) X₁ (hC H.size) (fun w h => by
      rcases List.mem_cons.mp h with rfl | h
      · exact word_at X₁.warmed (good_of_word (List.mem_filter.mp hm.1).2) (hts _ hm.1)
      · exact word_at X₁.warmed (good_of_word (List.mem_filter.mp h).2) (hts _ h)) (fun mY cY g1 g2 => by cases Option.some.inj (g1.symm.trans hml); cases Option.some.inj (g2.symm.trans hcM); exact hlM) ⟨methM, cM, hml, hcM⟩
    (word_at X₁.warmed (good_of_word (List.mem_filter.mp hm.2.1).2) (hts _ hm.2.1)) hf.1 hf.2 hR.1 hR.2
    (Pz.blind _ _ _ _ ⟨rfl, by show T.heap.size = H.size; rw [hT], by show va_P D vwCl _ T.heap; rw [hT]; exact hP, va_K.moved X₁.warmed.alike X.2.2.2.2.2.1, Nz.warm X₁.warmed X.2.2.2.2.2.2.1, Sz.move X.2.2.2.2.2.2.2.2.2.1 X₁.warmed.alike (fun a9 h8 h9 => by show T.heap[a9]? = _; rw [hT]; exact hS.2.1 a9 h8 h9) hFc, hD.weaken (fun _ _ _ _ => trivial)⟩)
    rfl (hl.1.trans X.2.2.1.symm) (by rw [X.2.1]; exact d) (lv_room hrm) (X₁.named hnamed)
  have hH : ((T.setVm vm₁).calling (F0 m pc ls rest) mk ((.ref (rh i) :: As) : List Value).toArray).heap = H := hT
  have keep : ∀ (L : List Loc) (t : State), (∀ z ∈ L, va_A (wd rh rc n σ) H.size z.base) → va_F (va_A (wd rh rc n σ) H.size) ((T.setVm vm₁).calling (F0 m pc ls rest) mk ((.ref (rh i) :: As) : List Value).toArray) t → va_S A s.heap t.heap (locs ++ L) := by
    intro L t hL hF
    obtain ⟨hz, hk⟩ := hF
    rw [hH] at hz hk
    refine ⟨Nat.le_trans hS.1 hz, fun q h1 h2 => ?_, fun z hz2 => ?_⟩
    · rw [hk q (Nat.lt_of_lt_of_le h1 hS.1) (fun z => h2 (hFc q z))]
      exact hS.2.1 q h1 h2
    · rcases List.mem_append.mp hz2 with h | h
      · exact hS.2.2 z h
      · exact hFc _ (hL z h)
  rcases hq with ⟨h0, ho, ⟨L, hfe, hL⟩, ⟨hP1, hD1⟩, hF⟩ | ⟨h0, q, ce, L, ho, hce, hcv, hcl, hW2, hsm, hL, ⟨hP1, hD1⟩, hF⟩
  · obtain ⟨T', X', e1, e2, hst9⟩ := kr _ L mc ms ho hfe
    obtain ⟨t2, a1, b1⟩ := kk h0 s₂.heap (locs ++ L) ls hP1 (hD1.weaken (fun _ _ _ h => hFc _ h)) (keep L s₂ hL hF) hl T' e1 X'
    exact ⟨t2, hstep₁ _ fun acts => by rw [doInvoke_state]; exact hst9.trans a1, b1⟩
  · obtain ⟨T', X', e1, e2, hst9⟩ := kt q L mc ms ho hW2 hsm
    have hcl2 : s.vm.findClass (exN F.1) = some ce.cls := by
      have h9 : (T.setVm vm₁).vm.findClass (exN F.1) = some ce.cls := hcl
      rw [X₁.warmed.alike.findClass] at h9
      exact h9
    obtain ⟨t2, a1, b1⟩ := kx h0 s₂.heap (locs ++ L) ls q ce hP1 (hD1.weaken (fun _ _ _ h => hFc _ h)) (keep L s₂ hL hF) hl hce hcv hcl2 T' e1 X'
    exact ⟨t2, hstep₁ _ fun acts => by rw [doInvoke_state]; exact hst9.trans a1, b1⟩
end VZXC
/-! CATCHING: the rows ahead of the one that takes it don't take it -/
/-- a row of the table that doesn't take an object of the class 'thrown' at pc -/
def rowNo (pl : Platform) (s : State) (d : ClassId) (pc : Nat) (thrown : ClassId) (z : ExceptionTableEntry) : Prop := covers z pc = false ∨ (z.catchType ≠ 0 ∧ ∃ c, s.vm.ClassLinks pl d z.catchType c ∧ s.vm.assignable thrown c = false)
/-- one row, by its link: the entry is noted; it takes the object, or the search goes on -/
theorem row_link {Q : Handler → Pre} {E : CtlPost} {e : Env} {d : Bool} {acts : List Action} {s : State} {f : JFrame} {a : Addr} {x : ExceptionTableEntry} {t : List ExceptionTableEntry} {c : ClassId} {cell : Cell} (hx : covers x f.pc = true) (h0 : x.catchType ≠ 0)
    (hl : s.vm.ClassLinks e.platform f.method.cls x.catchType c) (hcell : s.heap[a]? = some cell) (hobj : ∀ k, cell.vm ≠ .statics k)
    (hk : ∃ k, s.vm.classes[cell.cls]? = some k) (hc : ∃ k, s.vm.classes[c]? = some k) :
    wp (findHandler.go f a (x :: t)) Q E e d acts s ↔ if s.vm.assignable cell.cls c = true then Q (.found x.handlerPc) d acts (s.setVm (s.vm.noted f.method.cls x.catchType (.cls c))) else wp (findHandler.go f a t) Q E e d acts (s.setVm (s.vm.noted f.method.cls x.catchType (.cls c))) := by
  simp only [covers] at hx
  obtain ⟨ha, ht⟩ := (resolveClass_links e.toSetting hl).op (op := VmOp.resolveClass f.method.cls x.catchType) rfl
  have hal : s.vm.Alike (s.vm.noted f.method.cls x.catchType (.cls c)) := (Vm.Alike.refl s.vm).noted _ _ _
  obtain ⟨k1, hk1⟩ := hk
  obtain ⟨k2, hk2⟩ := hc
  obtain ⟨k1', hk1', -⟩ := hal.2.2 _ _ hk1
  obtain ⟨k2', hk2', -⟩ := hal.2.2 _ _ hk2
  cases hfit : s.vm.assignable cell.cls c with
  | true =>
    have hfit' : (s.vm.noted f.method.cls x.catchType (.cls c)).assignable cell.cls c = true := by rw [hal.assignable]; exact hfit
    simp [findHandler.go, hx, h0, ha, ht, hcell, hobj, hk1', hk2', hfit', VmOp.dirties, VmOp.acts]
  | false =>
    have hfit' : (s.vm.noted f.method.cls x.catchType (.cls c)).assignable cell.cls c = false := by rw [hal.assignable]; exact hfit
    simp [findHandler.go, hx, h0, ha, ht, hcell, hobj, hk1', hk2', hfit', VmOp.dirties, VmOp.acts]
theorem rows_to {e : Env} {s : State} {f : JFrame} {a : Addr} {cell : Cell} (hobj : ∀ k, cell.vm ≠ .statics k) {k0 : Class} (hk0 : s.vm.classes[cell.cls]? = some k0)
    (x : ExceptionTableEntry) (suf : List ExceptionTableEntry) (hx : covers x f.pc = true) (h0 : x.catchType ≠ 0) {c : ClassId} (hl : s.vm.ClassLinks e.platform f.method.cls x.catchType c) (hfit : s.vm.assignable cell.cls c = true) :
    ∀ (pre : List ExceptionTableEntry) (S : State), s.WarmedH S.vm → S.heap[a]? = some cell → (∀ z ∈ pre, rowNo e.platform s f.method.cls f.pc cell.cls z) →
      ∃ vm', s.WarmedH vm' ∧ ∀ (Q : Handler → Pre) (E : CtlPost) (d : Bool) (acts : List Action), wp (findHandler.go f a (pre ++ x :: suf)) Q E e d acts S ↔ Q (.found x.handlerPc) d acts (S.setVm vm') := by
  intro pre
  induction pre with
  | nil =>
    intro S hW hcell _
    obtain ⟨k1, hk1, -⟩ := hW.alike.2.2 _ _ hk0
    obtain ⟨dk, _, _, kt, hd, _, _, _, _, hkt, _, hopen⟩ := hl.here
    obtain ⟨kt', hkt', -⟩ := hW.alike.2.2 _ _ hkt
    refine ⟨_, hW.noted hd hopen (State.rightAt_cls hl), fun Q E d acts => ?_⟩
    rw [List.nil_append, row_link hx h0 (hW.classLinks hl) hcell hobj ⟨k1, hk1⟩ ⟨kt', hkt'⟩, if_pos (by rw [hW.alike.assignable]; exact hfit)]
  | cons z zs ih =>
    intro S hW hcell hno
    have hrest : ∀ w ∈ zs, rowNo e.platform s f.method.cls f.pc cell.cls w := fun w hw => hno w (List.mem_cons_of_mem _ hw)
    cases hcov : covers z f.pc with
    | false =>
      obtain ⟨vm', hW', hq⟩ := ih S hW hcell hrest
      exact ⟨vm', hW', fun Q E d acts => by rw [List.cons_append, W.findHandler_go_skip hcov]; exact hq Q E d acts⟩
    | true =>
      rcases hno z List.mem_cons_self with h | ⟨g0, c1, g1, g2⟩
      · rw [h] at hcov; cases hcov
      · obtain ⟨k1, hk1, -⟩ := hW.alike.2.2 _ _ hk0
        obtain ⟨dk, _, _, kt, hd, _, _, _, _, hkt, _, hopen⟩ := g1.here
        obtain ⟨kt', hkt', -⟩ := hW.alike.2.2 _ _ hkt
        obtain ⟨vm', hW', hq⟩ := ih (S.setVm (S.vm.noted f.method.cls z.catchType (.cls c1))) (hW.noted hd hopen (State.rightAt_cls g1)) hcell hrest
        refine ⟨vm', hW', fun Q E d acts => ?_⟩
        rw [List.cons_append, row_link hcov g0 (hW.classLinks g1) hcell hobj ⟨k1, hk1⟩ ⟨kt', hkt'⟩, if_neg (by rw [hW.alike.assignable, g2]; exact Bool.false_ne_true)]
        exact hq Q E d acts
theorem caught_step {tb : Tables} {e : Env} {s target : State} {g : JFrame} {c : Code} {below : List Frame} {a : Addr} (h : At s g.method c below) {pc : Nat} {vm' : Vm}
    (hfind : ∀ (Q : Handler → Pre) (E : CtlPost) (d : Bool) (acts : List Action), wp (findHandler g a) Q E e d acts ((s.setTop g).pushFrame (.throwing a)) ↔ Q (.found pc) d acts (((s.setTop g).pushFrame (.throwing a)).setVm vm'))
    (hrest : Steps tb e below ((s.setVm vm').setTop { g with pc := pc, stack := [.ref a] }) target) :
    Steps tb e below ((s.setTop g).pushFrame (.throwing a)) target := by
  obtain ⟨hgo, hw⟩ := h.throwing a
  refine Steps.head hgo hw ?_
  have step : ∀ (S : State) (r : List Frame), (∀ (Q : Handler → Pre) (E : CtlPost) (d : Bool) (acts : List Action), wp (findHandler g a) Q E e d acts S ↔ Q (.found pc) d acts (S.setVm vm')) → (stepThrowing e S a (.java g :: r)).Is ((S.setVm vm').setFrames (.java { g with pc := pc, stack := [.ref a] } :: r)) [] := by
    intro S r hf
    simp only [stepThrowing, searchFrame, vmDo]
    generalize hr : Sem.go _ e false [] S = res
    obtain ⟨as, rfl, ha⟩ := Sem.eq_ok_of hr (a := Handler.found pc) (s' := S.setVm vm') (acts' := []) (by simp [hf _ _ _ _])
    exact ⟨rfl, ha⟩
  have sv : ∀ (u : State) (F G : List Frame), ((u.setFrames F).setVm vm').setFrames G = (u.setVm vm').setFrames G := by
    intro u F G
    have h1 : (u.setFrames F).setVm vm' = (u.setVm vm').setFrames F := rfl
    rw [h1, State.setFrames_setFrames]
  rw [stepThread_throwing (frames_entered h.top _), (step ((s.setTop g).pushFrame (.throwing a)) _ hfind).1]
  obtain ⟨g₀, hg⟩ := Option.isSome_iff_exists.mp h.top
  obtain ⟨r, hr⟩ := State.topJava?_eq_some.mp hg
  have hr' : (s.setVm vm').frames = .java g₀ :: r := hr
  rw [State.setTop_of_frames _ hr'] at hrest
  rw [hr, List.tail_cons, State.pushFrame, sv, State.setTop_of_frames _ hr, sv]
  exact hrest
end
section
/-! the cells by their numbers; what a row of the state is as a cell -/
abbrev iSM : Nat := 0
abbrev iMA : Nat := 1
abbrev iWO : Nat := 2
abbrev iAP : Nat := 3
abbrev iAC : Nat := 4
abbrev iAS : Nat := 5
abbrev iTT : Nat := 6
abbrev iTP : Nat := 7
abbrev iTL : Nat := 8
abbrev iMO : Nat := 29
abbrev iOUT : Nat := 53
abbrev i_memory : Nat := 30
abbrev i_image : Nat := 31
abbrev i_register : Nat := 32
abbrev i_from : Nat := 33
abbrev i_size : Nat := 34
abbrev i_policy : Nat := 35
abbrev i_pc : Nat := 36
abbrev i_faults : Nat := 37
abbrev i_kind : Nat := 38
abbrev i_restarts : Nat := 39
abbrev i_begun : Nat := 40
abbrev i_measure : Nat := 41
abbrev i_ready : Nat := 42
abbrev i_full : Nat := 43
abbrev i_owner : Nat := 44
abbrev i_length : Nat := 45
abbrev i_source : Nat := 46
abbrev i_readers : Nat := 47
abbrev i_period : Nat := 48
abbrev i_value : Nat := 49
abbrev i_hour : Nat := 50
abbrev i_holds : Nat := 51
abbrev i_seal : Nat := 52
def iP (p : Nat) : Nat := 9 + 3 * p
def iR (p : Nat) : Nat := 10 + 3 * p
def iI (p : Nat) : Nat := 11 + 3 * p
def iC (p : Nat) : Nat := 21 + p
def iS (p : Nat) : Nat := 25 + p
abbrev NW : Nat := 54
abbrev tyL (cA : Nat → ClassId) : List (ClassId × FieldType) := [(cA 0, .int), (cA 1, .object "SeparationMonitor$Partition"), (cA 2, .object "SeparationMonitor$Channel"), (cA 3, .object "SeparationMonitor$Slot"), (cA 4, .long), (cA 5, .boolean)]
def rcW (rh : Nat → Nat) (cA : Nat → ClassId) (i : Nat) (f : Nat → Int32) : va_E := match i with
  | 0 => .inr (5, [.ref (rh iMA), .ref (rh iTT), .int (f 2), .int (f 3), .int (f 4)])
  | 1 => .inr (1, [.int (f 0), .ref (rh iWO), .ref (rh iAP), .ref (rh iAC), .ref (rh iAS), .int (f 5), .int (f 6)])
  | 2 => .inl (cA 0, 96, .inl f)
  | 3 => .inl (cA 1, 4, .inr (.inr (.inr (.inr (fun k => some (rh (iP k)))))))
  | 4 => .inl (cA 2, 4, .inr (.inr (.inr (.inr (fun k => some (rh (iC k)))))))
  | 5 => .inl (cA 3, 4, .inr (.inr (.inr (.inr (fun k => some (rh (iS k)))))))
  | 6 => .inr (4, [.ref (rh iTP), .ref (rh iTL), .int (f 2), .int (f 3), .int (f 4), .int (f 5)])
  | 7 => .inl (cA 0, 6, .inl f)
  | 8 => .inl (cA 0, 6, .inl f)
  | 9 => .inr (2, [.int (f 0), .int (f 1), .int (f 2), .int (f 3), .int (f 4), .int (f 5), .int (f 6), .int (f 7), .ref (rh (iR 0)), .ref (rh (iI 0)), .int (f 10), .int (f 11), .int (f 12), .int (f 13)])
  | 10 => .inl (cA 0, 16, .inl f)
  | 11 => .inl (cA 0, 32, .inl f)
  | 12 => .inr (2, [.int (f 0), .int (f 1), .int (f 2), .int (f 3), .int (f 4), .int (f 5), .int (f 6), .int (f 7), .ref (rh (iR 1)), .ref (rh (iI 1)), .int (f 10), .int (f 11), .int (f 12), .int (f 13)])
  | 13 => .inl (cA 0, 16, .inl f)
  | 14 => .inl (cA 0, 32, .inl f)
  | 15 => .inr (2, [.int (f 0), .int (f 1), .int (f 2), .int (f 3), .int (f 4), .int (f 5), .int (f 6), .int (f 7), .ref (rh (iR 2)), .ref (rh (iI 2)), .int (f 10), .int (f 11), .int (f 12), .int (f 13)])
  | 16 => .inl (cA 0, 16, .inl f)
  | 17 => .inl (cA 0, 32, .inl f)
  | 18 => .inr (2, [.int (f 0), .int (f 1), .int (f 2), .int (f 3), .int (f 4), .int (f 5), .int (f 6), .int (f 7), .ref (rh (iR 3)), .ref (rh (iI 3)), .int (f 10), .int (f 11), .int (f 12), .int (f 13)])
  | 19 => .inl (cA 0, 16, .inl f)
  | 20 => .inl (cA 0, 32, .inl f)
  | 21 => .inr (0, [.int (f 0), .int (f 1), .int (f 2), .int (f 3), .int (f 4), .int (f 5)])
  | 22 => .inr (0, [.int (f 0), .int (f 1), .int (f 2), .int (f 3), .int (f 4), .int (f 5)])
  | 23 => .inr (0, [.int (f 0), .int (f 1), .int (f 2), .int (f 3), .int (f 4), .int (f 5)])
  | 24 => .inr (0, [.int (f 0), .int (f 1), .int (f 2), .int (f 3), .int (f 4), .int (f 5)])
  | 25 => .inr (3, [.int (f 0), .int (f 1)])
  | 26 => .inr (3, [.int (f 0), .int (f 1)])
  | 27 => .inr (3, [.int (f 0), .int (f 1)])
  | 28 => .inr (3, [.int (f 0), .int (f 1)])
  | 29 => .inr (6, [.ref (rh i_memory), .ref (rh i_image), .ref (rh i_register), .ref (rh i_from), .ref (rh i_size), .ref (rh i_policy), .ref (rh i_pc), .ref (rh i_faults), .ref (rh i_kind), .ref (rh i_restarts), .ref (rh i_begun), .ref (rh i_measure), .ref (rh i_ready), .ref (rh i_full), .ref (rh i_owner), .ref (rh i_length), .ref (rh i_source), .ref (rh i_readers), .ref (rh i_period), .ref (rh i_value), .ref (rh i_hour), .ref (rh i_holds), .ref (rh i_seal), .int (f 23), .int (f 24), .int (f 25), .int (f 26), .int (f 27), .int (f 28), .int (f 29), .int (f 30), .int (f 31), .int (f 32), .int (f 33)])
  | 30 => .inl (cA 0, 96, .inl f)
  | 31 => .inl (cA 0, 128, .inl f)
  | 32 => .inl (cA 0, 64, .inl f)
  | 33 => .inl (cA 0, 4, .inl f)
  | 34 => .inl (cA 0, 4, .inl f)
  | 35 => .inl (cA 0, 4, .inl f)
  | 36 => .inl (cA 0, 4, .inl f)
  | 37 => .inl (cA 0, 4, .inl f)
  | 38 => .inl (cA 0, 4, .inl f)
  | 39 => .inl (cA 0, 4, .inl f)
  | 40 => .inl (cA 0, 4, .inl f)
  | 41 => .inl (cA 0, 4, .inl f)
  | 42 => .inl (cA 5, 4, .inl f)
  | 43 => .inl (cA 5, 4, .inl f)
  | 44 => .inl (cA 0, 6, .inl f)
  | 45 => .inl (cA 0, 6, .inl f)
  | 46 => .inl (cA 0, 4, .inl f)
  | 47 => .inl (cA 0, 4, .inl f)
  | 48 => .inl (cA 0, 4, .inl f)
  | 49 => .inl (cA 0, 4, .inl f)
  | 50 => .inl (cA 0, 4, .inl f)
  | 51 => .inl (cA 0, 4, .inl f)
  | 52 => .inl (cA 0, 4, .inl f)
  | 53 => .inl (cA 4, 1, .inr (.inl (fun j => (f j).toInt64)))
  | _ => .inr (0, [])
theorem lt_SM : iSM < NW := by decide
theorem sh_SM {rh : Nat → Nat} {cA : Nat → ClassId} : ∀ f, rcW rh cA iSM f = .inr (5, [.ref (rh iMA), .ref (rh iTT), .int (f 2), .int (f 3), .int (f 4)]) := fun _ => rfl
theorem lt_MA : iMA < NW := by decide
theorem sh_MA {rh : Nat → Nat} {cA : Nat → ClassId} : ∀ f, rcW rh cA iMA f = .inr (1, [.int (f 0), .ref (rh iWO), .ref (rh iAP), .ref (rh iAC), .ref (rh iAS), .int (f 5), .int (f 6)]) := fun _ => rfl
theorem lt_TT : iTT < NW := by decide
theorem sh_TT {rh : Nat → Nat} {cA : Nat → ClassId} : ∀ f, rcW rh cA iTT f = .inr (4, [.ref (rh iTP), .ref (rh iTL), .int (f 2), .int (f 3), .int (f 4), .int (f 5)]) := fun _ => rfl
theorem lt_MO : iMO < NW := by decide
theorem sh_MO {rh : Nat → Nat} {cA : Nat → ClassId} : ∀ f, rcW rh cA iMO f = .inr (6, [.ref (rh i_memory), .ref (rh i_image), .ref (rh i_register), .ref (rh i_from), .ref (rh i_size), .ref (rh i_policy), .ref (rh i_pc), .ref (rh i_faults), .ref (rh i_kind), .ref (rh i_restarts), .ref (rh i_begun), .ref (rh i_measure), .ref (rh i_ready), .ref (rh i_full), .ref (rh i_owner), .ref (rh i_length), .ref (rh i_source), .ref (rh i_readers), .ref (rh i_period), .ref (rh i_value), .ref (rh i_hour), .ref (rh i_holds), .ref (rh i_seal), .int (f 23), .int (f 24), .int (f 25), .int (f 26), .int (f 27), .int (f 28), .int (f 29), .int (f 30), .int (f 31), .int (f 32), .int (f 33)]) := fun _ => rfl
theorem lt_WO : iWO < NW := by decide
theorem sh_WO {rh : Nat → Nat} {cA : Nat → ClassId} : ∀ f, rcW rh cA iWO f = .inl (cA 0, 96, .inl f) := fun _ => rfl
theorem lt_TP : iTP < NW := by decide
theorem sh_TP {rh : Nat → Nat} {cA : Nat → ClassId} : ∀ f, rcW rh cA iTP f = .inl (cA 0, 6, .inl f) := fun _ => rfl
theorem lt_TL : iTL < NW := by decide
theorem sh_TL {rh : Nat → Nat} {cA : Nat → ClassId} : ∀ f, rcW rh cA iTL f = .inl (cA 0, 6, .inl f) := fun _ => rfl
theorem lt_APT : iAP < NW := by decide
theorem sh_APT {rh : Nat → Nat} {cA : Nat → ClassId} : ∀ f, rcW rh cA iAP f = .inl (cA 1, 4, .inr (.inr (.inr (.inr (fun k => some (rh (iP k))))))) := fun _ => rfl
theorem lt_ACH : iAC < NW := by decide
theorem sh_ACH {rh : Nat → Nat} {cA : Nat → ClassId} : ∀ f, rcW rh cA iAC f = .inl (cA 2, 4, .inr (.inr (.inr (.inr (fun k => some (rh (iC k))))))) := fun _ => rfl
theorem lt_ASL : iAS < NW := by decide
theorem sh_ASL {rh : Nat → Nat} {cA : Nat → ClassId} : ∀ f, rcW rh cA iAS f = .inl (cA 3, 4, .inr (.inr (.inr (.inr (fun k => some (rh (iS k))))))) := fun _ => rfl
theorem lt_m_memory : i_memory < NW := by decide
theorem sh_m_memory {rh : Nat → Nat} {cA : Nat → ClassId} : ∀ f, rcW rh cA i_memory f = .inl (cA 0, 96, .inl f) := fun _ => rfl
theorem lt_m_image : i_image < NW := by decide
theorem sh_m_image {rh : Nat → Nat} {cA : Nat → ClassId} : ∀ f, rcW rh cA i_image f = .inl (cA 0, 128, .inl f) := fun _ => rfl
theorem lt_m_register : i_register < NW := by decide
theorem sh_m_register {rh : Nat → Nat} {cA : Nat → ClassId} : ∀ f, rcW rh cA i_register f = .inl (cA 0, 64, .inl f) := fun _ => rfl
theorem lt_m_from : i_from < NW := by decide
theorem sh_m_from {rh : Nat → Nat} {cA : Nat → ClassId} : ∀ f, rcW rh cA i_from f = .inl (cA 0, 4, .inl f) := fun _ => rfl
theorem lt_m_size : i_size < NW := by decide
theorem sh_m_size {rh : Nat → Nat} {cA : Nat → ClassId} : ∀ f, rcW rh cA i_size f = .inl (cA 0, 4, .inl f) := fun _ => rfl
theorem lt_m_policy : i_policy < NW := by decide
theorem sh_m_policy {rh : Nat → Nat} {cA : Nat → ClassId} : ∀ f, rcW rh cA i_policy f = .inl (cA 0, 4, .inl f) := fun _ => rfl
theorem lt_m_pc : i_pc < NW := by decide
theorem sh_m_pc {rh : Nat → Nat} {cA : Nat → ClassId} : ∀ f, rcW rh cA i_pc f = .inl (cA 0, 4, .inl f) := fun _ => rfl
theorem lt_m_faults : i_faults < NW := by decide
theorem sh_m_faults {rh : Nat → Nat} {cA : Nat → ClassId} : ∀ f, rcW rh cA i_faults f = .inl (cA 0, 4, .inl f) := fun _ => rfl
theorem lt_m_kind : i_kind < NW := by decide
theorem sh_m_kind {rh : Nat → Nat} {cA : Nat → ClassId} : ∀ f, rcW rh cA i_kind f = .inl (cA 0, 4, .inl f) := fun _ => rfl
theorem lt_m_restarts : i_restarts < NW := by decide
theorem sh_m_restarts {rh : Nat → Nat} {cA : Nat → ClassId} : ∀ f, rcW rh cA i_restarts f = .inl (cA 0, 4, .inl f) := fun _ => rfl
theorem lt_m_begun : i_begun < NW := by decide
theorem sh_m_begun {rh : Nat → Nat} {cA : Nat → ClassId} : ∀ f, rcW rh cA i_begun f = .inl (cA 0, 4, .inl f) := fun _ => rfl
theorem lt_m_measure : i_measure < NW := by decide
theorem sh_m_measure {rh : Nat → Nat} {cA : Nat → ClassId} : ∀ f, rcW rh cA i_measure f = .inl (cA 0, 4, .inl f) := fun _ => rfl
theorem lt_m_ready : i_ready < NW := by decide
theorem sh_m_ready {rh : Nat → Nat} {cA : Nat → ClassId} : ∀ f, rcW rh cA i_ready f = .inl (cA 5, 4, .inl f) := fun _ => rfl
theorem lt_m_full : i_full < NW := by decide
theorem sh_m_full {rh : Nat → Nat} {cA : Nat → ClassId} : ∀ f, rcW rh cA i_full f = .inl (cA 5, 4, .inl f) := fun _ => rfl
theorem lt_m_owner : i_owner < NW := by decide
theorem sh_m_owner {rh : Nat → Nat} {cA : Nat → ClassId} : ∀ f, rcW rh cA i_owner f = .inl (cA 0, 6, .inl f) := fun _ => rfl
theorem lt_m_length : i_length < NW := by decide
theorem sh_m_length {rh : Nat → Nat} {cA : Nat → ClassId} : ∀ f, rcW rh cA i_length f = .inl (cA 0, 6, .inl f) := fun _ => rfl
theorem lt_m_source : i_source < NW := by decide
theorem sh_m_source {rh : Nat → Nat} {cA : Nat → ClassId} : ∀ f, rcW rh cA i_source f = .inl (cA 0, 4, .inl f) := fun _ => rfl
theorem lt_m_readers : i_readers < NW := by decide
theorem sh_m_readers {rh : Nat → Nat} {cA : Nat → ClassId} : ∀ f, rcW rh cA i_readers f = .inl (cA 0, 4, .inl f) := fun _ => rfl
theorem lt_m_period : i_period < NW := by decide
theorem sh_m_period {rh : Nat → Nat} {cA : Nat → ClassId} : ∀ f, rcW rh cA i_period f = .inl (cA 0, 4, .inl f) := fun _ => rfl
theorem lt_m_value : i_value < NW := by decide
theorem sh_m_value {rh : Nat → Nat} {cA : Nat → ClassId} : ∀ f, rcW rh cA i_value f = .inl (cA 0, 4, .inl f) := fun _ => rfl
theorem lt_m_hour : i_hour < NW := by decide
theorem sh_m_hour {rh : Nat → Nat} {cA : Nat → ClassId} : ∀ f, rcW rh cA i_hour f = .inl (cA 0, 4, .inl f) := fun _ => rfl
theorem lt_m_holds : i_holds < NW := by decide
theorem sh_m_holds {rh : Nat → Nat} {cA : Nat → ClassId} : ∀ f, rcW rh cA i_holds f = .inl (cA 0, 4, .inl f) := fun _ => rfl
theorem lt_m_seal : i_seal < NW := by decide
theorem sh_m_seal {rh : Nat → Nat} {cA : Nat → ClassId} : ∀ f, rcW rh cA i_seal f = .inl (cA 0, 4, .inl f) := fun _ => rfl
theorem lt_PT {p : Nat} (hp : p < 4) : iP p < NW := by unfold iP NW; omega
theorem sh_PT {rh : Nat → Nat} {cA : Nat → ClassId} {p : Nat} (hp : p < 4) : ∀ f, rcW rh cA (iP p) f = .inr (2, [.int (f 0), .int (f 1), .int (f 2), .int (f 3), .int (f 4), .int (f 5), .int (f 6), .int (f 7), .ref (rh (iR p)), .ref (rh (iI p)), .int (f 10), .int (f 11), .int (f 12), .int (f 13)]) := fun f => by
  match p, hp with
  | 0, _ => rfl
  | 1, _ => rfl
  | 2, _ => rfl
  | 3, _ => rfl
theorem lt_RG {p : Nat} (hp : p < 4) : iR p < NW := by unfold iR NW; omega
theorem sh_RG {rh : Nat → Nat} {cA : Nat → ClassId} {p : Nat} (hp : p < 4) : ∀ f, rcW rh cA (iR p) f = .inl (cA 0, 16, .inl f) := fun f => by
  match p, hp with
  | 0, _ => rfl
  | 1, _ => rfl
  | 2, _ => rfl
  | 3, _ => rfl
theorem lt_IM {p : Nat} (hp : p < 4) : iI p < NW := by unfold iI NW; omega
theorem sh_IM {rh : Nat → Nat} {cA : Nat → ClassId} {p : Nat} (hp : p < 4) : ∀ f, rcW rh cA (iI p) f = .inl (cA 0, 32, .inl f) := fun f => by
  match p, hp with
  | 0, _ => rfl
  | 1, _ => rfl
  | 2, _ => rfl
  | 3, _ => rfl
theorem lt_CH {p : Nat} (hp : p < 4) : iC p < NW := by unfold iC NW; omega
theorem sh_CH {rh : Nat → Nat} {cA : Nat → ClassId} {p : Nat} (hp : p < 4) : ∀ f, rcW rh cA (iC p) f = .inr (0, [.int (f 0), .int (f 1), .int (f 2), .int (f 3), .int (f 4), .int (f 5)]) := fun f => by
  match p, hp with
  | 0, _ => rfl
  | 1, _ => rfl
  | 2, _ => rfl
  | 3, _ => rfl
theorem lt_SL {p : Nat} (hp : p < 4) : iS p < NW := by unfold iS NW; omega
theorem sh_SL {rh : Nat → Nat} {cA : Nat → ClassId} {p : Nat} (hp : p < 4) : ∀ f, rcW rh cA (iS p) f = .inr (3, [.int (f 0), .int (f 1)]) := fun f => by
  match p, hp with
  | 0, _ => rfl
  | 1, _ => rfl
  | 2, _ => rfl
  | 3, _ => rfl
theorem in_SM : ∀ w ∈ u_ws RX7 TX7 5, w ∈ gw := fun w h => gw_of ((by decide +kernel : ∀ w ∈ u_ws RX7 TX7 5, w ∈ lw_tbl) w h) ((by decide +kernel : ∀ w ∈ u_ws RX7 TX7 5, goodWord w = true) w h)
theorem in_MA : ∀ w ∈ u_ws RX2 TX2 7, w ∈ gw := fun w h => gw_of ((by decide +kernel : ∀ w ∈ u_ws RX2 TX2 7, w ∈ lw_tbl) w h) ((by decide +kernel : ∀ w ∈ u_ws RX2 TX2 7, goodWord w = true) w h)
theorem in_TT : ∀ w ∈ u_ws RX6 TX6 6, w ∈ gw := fun w h => gw_of ((by decide +kernel : ∀ w ∈ u_ws RX6 TX6 6, w ∈ lw_tbl) w h) ((by decide +kernel : ∀ w ∈ u_ws RX6 TX6 6, goodWord w = true) w h)
theorem in_PT : ∀ w ∈ u_ws RX3 TX3 14, w ∈ gw := fun w h => gw_of ((by decide +kernel : ∀ w ∈ u_ws RX3 TX3 14, w ∈ lw_tbl) w h) ((by decide +kernel : ∀ w ∈ u_ws RX3 TX3 14, goodWord w = true) w h)
theorem in_CH : ∀ w ∈ u_ws RX0 TX0 6, w ∈ gw := fun w h => gw_of ((by decide +kernel : ∀ w ∈ u_ws RX0 TX0 6, w ∈ lw_tbl) w h) ((by decide +kernel : ∀ w ∈ u_ws RX0 TX0 6, goodWord w = true) w h)
theorem in_SL : ∀ w ∈ u_ws RX5 TX5 2, w ∈ gw := fun w h => gw_of ((by decide +kernel : ∀ w ∈ u_ws RX5 TX5 2, w ∈ lw_tbl) w h) ((by decide +kernel : ∀ w ∈ u_ws RX5 TX5 2, goodWord w = true) w h)
theorem in_MO : ∀ w ∈ u_ws RX8 TX8 34, w ∈ gw := fun w h => gw_of ((by decide +kernel : ∀ w ∈ u_ws RX8 TX8 34, w ∈ lw_tbl) w h) ((by decide +kernel : ∀ w ∈ u_ws RX8 TX8 34, goodWord w = true) w h)
-- small rows
theorem vin_lt {j : Int32} {N : Nat} (h : vp_in j N) : j.toNatClampNeg < N := Nat.not_le.mp fun q => h (Or.inr q)
theorem vin_mk {j : Int32} {N : Nat} (h0 : 0 ≤ j.toInt) (h1 : j.toInt < (N : Int)) : vp_in j N := vp_in_iff.mpr ⟨h0, h1⟩
theorem ile {a b : Int32} : a ≤ b ↔ a.toInt ≤ b.toInt := Int32.le_iff_toInt_le
theorem ilt {a b : Int32} : a < b ↔ a.toInt < b.toInt := Int32.lt_iff_toInt_lt
theorem vin_c {j : Int32} {N : Nat} (M : Int32) (hM : M.toInt = (N : Int)) (h0 : ¬ j < 0) (h1 : ¬ M ≤ j) : vp_in j N := by
  rw [ilt] at h0; rw [ile] at h1
  have z : (0 : Int32).toInt = 0 := by decide
  exact vin_mk (by omega) (by omega)
theorem i_succ {i N : Int32} (h : ¬ N ≤ i) : (i + 1).toInt = i.toInt + 1 := by
  rw [ile] at h
  have h1 := Int32.toInt_lt N
  have h2 := Int32.le_toInt i
  have h3 : (1 : Int32).toInt = 1 := by decide
  rw [Int32.toInt_add, h3]
  apply Int.bmod_eq_of_le <;> omega
theorem zN {x : Int32} (h : x = 0 ∨ x = 1) : narrow .boolean (.int x) = .int x := by
  rcases h with rfl | rfl <;> decide
theorem zF {x : Int32} (h : x = 0 ∨ x = 1) : fits .boolean (.int x) = true := by
  rcases h with rfl | rfl <;> decide
theorem z_ite {c : Prop} [Decidable c] {a b : Int32} (ha : a = 0 ∨ a = 1) (hb : b = 0 ∨ b = 1) : (if c then a else b) = 0 ∨ (if c then a else b) = 1 := by
  split
  · exact ha
  · exact hb
theorem clamp_toInt {x : Int32} (h : 0 ≤ x.toInt) : (x.toNatClampNeg : Int) = x.toInt := by
  rw [show x.toNatClampNeg = x.toInt.toNat from rfl]
  omega
section ENDS
variable {p : Program} {l : Launch} {e : Env} {R : Room} {s : State} {m : MethodId} {args : Array Value} {below : List Frame} {meth : Method} {c : Code} {D : va_G} {A : Nat → Prop} {cc : ByteArray} {nL : Nat} {rh : Nat → Nat} {rc : Nat → (Nat → Int32) → va_E} {n : Nat} {cells slots : Nat} {Q : State → Prop} {pc : Nat} {lv : List (Nat × Value)} {σ σ' : St} {r x : Int32}
theorem v_endI (hend : ∀ (pc : Nat) (lv : List (Nat × Value)), decode cc pc = .ok (.ireturn, 1) → Vz p l e R s m args below meth c D A nL rh rc n cells slots Q pc lv [.int r] σ') (d : decode cc pc = .ok (.ireturn, 1)) (hr : r = x) (hs : σ' = σ) : Vz p l e R s m args below meth c D A nL rh rc n cells slots Q pc lv [.int x] σ := by
  subst hr; subst hs
  exact hend pc lv d
theorem v_endV (hend : ∀ (pc : Nat) (lv : List (Nat × Value)), decode cc pc = .ok (.return_, 1) → Vz p l e R s m args below meth c D A nL rh rc n cells slots Q pc lv [] σ') (d : decode cc pc = .ok (.return_, 1)) (hs : σ' = σ) : Vz p l e R s m args below meth c D A nL rh rc n cells slots Q pc lv [] σ := by
  subst hs
  exact hend pc lv d
end ENDS
theorem t0i : (0 : Int32).toInt = 0 := by decide
theorem nlt0 {x : Int32} (h : 0 ≤ x.toInt) : ¬ x < 0 := by
  rw [ilt, t0i]; omega
theorem nle {x M : Int32} {N : Nat} (hM : M.toInt = (N : Int)) (h : ¬ M ≤ x) : x.toInt < (N : Int) := by
  rw [ile] at h; omega
theorem vin_p {j : Int32} {N : Nat} (M : Int32) (hM : M.toInt = (N : Int)) (h0 : ¬ j ≤ 0) (h1 : ¬ M ≤ j) : vp_in j N := by
  rw [ile, t0i] at h0; rw [ile] at h1
  exact vin_mk (by omega) (by omega)
theorem cp_a {s : Int32} (h0 : 0 ≤ s.toInt) (h : s.toInt ≤ 32) : (0 : Int32).toNatClampNeg + s.toNatClampNeg ≤ 32 := by
  have h1 := clamp_toInt h0
  have h2 : (0 : Int32).toNatClampNeg = 0 := by decide
  omega
theorem cp_b {f s : Int32} (h0 : 0 ≤ f.toInt) (h1 : 0 ≤ s.toInt) (h : f.toInt + s.toInt ≤ 96) : f.toNatClampNeg + s.toNatClampNeg ≤ 96 := by
  have h2 := clamp_toInt h0
  have h3 := clamp_toInt h1
  omega
theorem up_row {σ : St} {i k j : Nat} {v : Int32} (h : j ≠ i) : up σ i k v j = σ j := by simp [up, upr, h]
theorem up_self {σ : St} {i k : Nat} {v : Int32} : up σ i k v i = upd (σ i) k v := by simp [up, upr]
theorem upr_row {σ : St} {i j : Nat} {f : Nat → Int32} (h : j ≠ i) : upr σ i f j = σ j := by simp [upr, h]
theorem upr_self {σ : St} {i : Nat} {f : Nat → Int32} : upr σ i f i = f := by simp [upr]
theorem up_slot {σ : St} {i k j k' : Nat} {v : Int32} (h : k' ≠ k) : up σ i k v j k' = σ j k' := by
  by_cases hj : j = i
  · subst hj; rw [up_self]; simp [upd, h]
  · rw [up_row hj]
/-! what always holds of the class's state: it keeps every index in its array -/
def Ic (σ : St) : Prop := (∀ p, p < 4 → σ (iP p) 0 = nI p ∧ 0 ≤ (σ (iP p) 1).toInt ∧ 0 ≤ (σ (iP p) 2).toInt ∧ (σ (iP p) 2).toInt ≤ 32 ∧ (σ (iP p) 1).toInt + (σ (iP p) 2).toInt ≤ 96) ∧ (0 ≤ (σ iTT 2).toInt ∧ (σ iTT 2).toInt ≤ 6) ∧ (0 ≤ (σ iTT 3).toInt ∧ (σ iTT 3).toInt < 6) ∧ ∀ w, w < 6 → 0 ≤ (σ iTP w).toInt ∧ (σ iTP w).toInt < 4
theorem Ic.nr {σ : St} (h : Ic σ) {p : Nat} (hp : p < 4) : σ (iP p) 0 = nI p := (h.1 p hp).1
theorem Ic.rg {σ : St} (h : Ic σ) {p : Nat} (hp : p < 4) : 0 ≤ (σ (iP p) 1).toInt ∧ 0 ≤ (σ (iP p) 2).toInt ∧ (σ (iP p) 2).toInt ≤ 32 ∧ (σ (iP p) 1).toInt + (σ (iP p) 2).toInt ≤ 96 := (h.1 p hp).2
theorem Ic.ts {σ : St} (h : Ic σ) : 0 ≤ (σ iTT 2).toInt ∧ (σ iTT 2).toInt ≤ 6 := h.2.1
theorem Ic.tc {σ : St} (h : Ic σ) : 0 ≤ (σ iTT 3).toInt ∧ (σ iTT 3).toInt < 6 := h.2.2.1
theorem Ic.tp {σ : St} (h : Ic σ) {w : Nat} (hw : w < 6) : 0 ≤ (σ iTP w).toInt ∧ (σ iTP w).toInt < 4 := h.2.2.2 w hw
theorem Ic.same {σ σ' : St} (h : Ic σ) (h1 : ∀ p, p < 4 → σ' (iP p) 0 = σ (iP p) 0 ∧ σ' (iP p) 1 = σ (iP p) 1 ∧ σ' (iP p) 2 = σ (iP p) 2) (h2 : σ' iTT 2 = σ iTT 2) (h3 : σ' iTT 3 = σ iTT 3) (h4 : ∀ w, w < 6 → σ' iTP w = σ iTP w) : Ic σ' := by
  refine ⟨fun p hp => ?_, by rw [h2]; exact h.2.1, by rw [h3]; exact h.2.2.1, fun w hw => by rw [h4 w hw]; exact h.2.2.2 w hw⟩
  obtain ⟨a, b, c⟩ := h1 p hp
  rw [a, b, c]
  exact h.1 p hp
theorem Ic.row {σ : St} {i : Nat} {f : Nat → Int32} (h : Ic σ) (h1 : ∀ p, p < 4 → iP p ≠ i) (h2 : iTT ≠ i) (h3 : iTP ≠ i) : Ic (upr σ i f) :=
  h.same (fun p hp => by rw [upr_row (h1 p hp)]; exact ⟨rfl, rfl, rfl⟩) (by rw [upr_row h2]) (by rw [upr_row h2]) (fun w _ => by rw [upr_row h3])
theorem Ic.upSM {σ : St} {k : Nat} {v : Int32} (h : Ic σ) : Ic (up σ iSM k v) := h.row (fun p hp => by unfold iP iSM; omega) (by unfold iTT iSM; omega) (by unfold iTP iSM; omega)
theorem Ic.upMA {σ : St} {k : Nat} {v : Int32} (h : Ic σ) : Ic (up σ iMA k v) := h.row (fun p hp => by unfold iP iMA; omega) (by unfold iTT iMA; omega) (by unfold iTP iMA; omega)
theorem Ic.upWO {σ : St} {k : Nat} {v : Int32} (h : Ic σ) : Ic (up σ iWO k v) := h.row (fun p hp => by unfold iP iWO; omega) (by unfold iTT iWO; omega) (by unfold iTP iWO; omega)
theorem Ic.upTL {σ : St} {k : Nat} {v : Int32} (h : Ic σ) : Ic (up σ iTL k v) := h.row (fun p hp => by unfold iP iTL; omega) (by unfold iTT iTL; omega) (by unfold iTP iTL; omega)
theorem Ic.upRG {σ : St} {q k : Nat} {v : Int32} (h : Ic σ) : Ic (up σ (iR q) k v) := h.row (fun p hp => by unfold iP iR; omega) (by unfold iTT iR; omega) (by unfold iTP iR; omega)
theorem Ic.upIM {σ : St} {q k : Nat} {v : Int32} (h : Ic σ) : Ic (up σ (iI q) k v) := h.row (fun p hp => by unfold iP iI; omega) (by unfold iTT iI; omega) (by unfold iTP iI; omega)
theorem Ic.upCH {σ : St} {q k : Nat} {v : Int32} (h : Ic σ) : Ic (up σ (iC q) k v) := h.row (fun p hp => by unfold iP iC; omega) (by unfold iTT iC; omega) (by unfold iTP iC; omega)
theorem Ic.upSL {σ : St} {q k : Nat} {v : Int32} (h : Ic σ) : Ic (up σ (iS q) k v) := h.row (fun p hp => by unfold iP iS; omega) (by unfold iTT iS; omega) (by unfold iTP iS; omega)
theorem Ic.uprWO {σ : St} {f : Nat → Int32} (h : Ic σ) : Ic (upr σ iWO f) := h.row (fun p hp => by unfold iP iWO; omega) (by unfold iTT iWO; omega) (by unfold iTP iWO; omega)
theorem Ic.uprIM {σ : St} {q : Nat} {f : Nat → Int32} (h : Ic σ) : Ic (upr σ (iI q) f) := h.row (fun p hp => by unfold iP iI; omega) (by unfold iTT iI; omega) (by unfold iTP iI; omega)
theorem Ic.upPT {σ : St} {q k : Nat} {v : Int32} (h : Ic σ) (hk : 2 < k) : Ic (up σ (iP q) k v) :=
  h.same (fun p _ => ⟨up_slot (by omega), up_slot (by omega), up_slot (by omega)⟩) (by rw [up_row (by unfold iTT iP; omega)]) (by rw [up_row (by unfold iTT iP; omega)]) (fun w _ => by rw [up_row (by unfold iTP iP; omega)])
theorem Ic.upTT {σ : St} {k : Nat} {v : Int32} (h : Ic σ) (hk : 3 < k) : Ic (up σ iTT k v) :=
  h.same (fun p hp => by rw [up_row (by unfold iTT iP; omega)]; exact ⟨rfl, rfl, rfl⟩) (up_slot (by omega)) (up_slot (by omega)) (fun w _ => by rw [up_row (by unfold iTP iTT; omega)])
/-- another window is the current one -/
theorem Ic.cur {σ : St} {v : Int32} (h : Ic σ) (hv : vp_in v 6) : Ic (up σ iTT 3 v) := by
  obtain ⟨h1, h2, h3, h4⟩ := h
  have e1 : ∀ p, up σ iTT 3 v (iP p) = σ (iP p) := fun p => up_row (by unfold iTT iP; omega)
  have e2 : up σ iTT 3 v iTT 2 = σ iTT 2 := up_slot (by decide)
  have e3 : up σ iTT 3 v iTT 3 = v := by rw [up_self]; simp [upd]
  have e4 : up σ iTT 3 v iTP = σ iTP := up_row (by decide)
  refine ⟨fun p hp => by rw [e1]; exact h1 p hp, by rw [e2]; exact h2, by rw [e3]; exact vp_in_iff.mp hv, fun w hw => by rw [e4]; exact h4 w hw⟩
theorem ew_in {σ : St} (hI : Ic σ) : vp_in (if (σ iTT 2) ≤ ((σ iTT 3) + 1) then 0 else ((σ iTT 3) + 1)) 6 := by
  have h1 := hI.ts
  have h2 := hI.tc
  split
  · exact vin_mk (by decide) (by decide)
  · rename_i h
    have h3 : ¬ (6 : Int32) ≤ σ iTT 3 := by
      rw [ile]
      have z : (6 : Int32).toInt = 6 := by decide
      omega
    have h4 := i_succ h3
    rw [ile, h4] at h
    exact vin_mk (by omega) (by rw [h4]; omega)
end
section
theorem mf_CO_f : MF yX1_f cX1_f 1 (some .int) 1 := ⟨gw_of (by decide +kernel) rfl, gw_of (by decide +kernel) rfl, by decide +kernel, by decide +kernel, by decide +kernel⟩
theorem mf_CO_g : MF yX1_g cX1_g 1 (some .int) 1 := ⟨gw_of (by decide +kernel) rfl, gw_of (by decide +kernel) rfl, by decide +kernel, by decide +kernel, by decide +kernel⟩
theorem mf_CO_isKnownWithImmediate : MF yX1_isKnownWithImmediate cX1_isKnownWithImmediate 2 (some .boolean) 2 := ⟨gw_of (by decide +kernel) rfl, gw_of (by decide +kernel) rfl, by decide +kernel, by decide +kernel, by decide +kernel⟩
theorem mf_CO_isKnownWithRegister : MF yX1_isKnownWithRegister cX1_isKnownWithRegister 2 (some .boolean) 2 := ⟨gw_of (by decide +kernel) rfl, gw_of (by decide +kernel) rfl, by decide +kernel, by decide +kernel, by decide +kernel⟩
theorem mf_CO_o : MF yX1_o cX1_o 1 (some .int) 1 := ⟨gw_of (by decide +kernel) rfl, gw_of (by decide +kernel) rfl, by decide +kernel, by decide +kernel, by decide +kernel⟩
theorem mf_CO_rd : MF yX1_rd cX1_rd 1 (some .int) 1 := ⟨gw_of (by decide +kernel) rfl, gw_of (by decide +kernel) rfl, by decide +kernel, by decide +kernel, by decide +kernel⟩
theorem mf_CO_rs1 : MF yX1_rs1 cX1_rs1 1 (some .int) 1 := ⟨gw_of (by decide +kernel) rfl, gw_of (by decide +kernel) rfl, by decide +kernel, by decide +kernel, by decide +kernel⟩
theorem mf_CO_rs2 : MF yX1_rs2 cX1_rs2 1 (some .int) 1 := ⟨gw_of (by decide +kernel) rfl, gw_of (by decide +kernel) rfl, by decide +kernel, by decide +kernel, by decide +kernel⟩
theorem mf_RE_lessWithoutSign : MF yX4_lessWithoutSign cX4_lessWithoutSign 2 (some .boolean) 2 := ⟨gw_of (by decide +kernel) rfl, gw_of (by decide +kernel) rfl, by decide +kernel, by decide +kernel, by decide +kernel⟩
theorem mf_SM_within : MF yX7_within cX7_within 3 (some .boolean) 3 := ⟨gw_of (by decide +kernel) rfl, gw_of (by decide +kernel) rfl, by decide +kernel, by decide +kernel, by decide +kernel⟩
theorem wf_CH_18 : Cond.fieldLink RX0 18 RX0 "period" "I" ∈ gw := gw_of (by decide +kernel) rfl
theorem wf_CH_21 : Cond.fieldLink RX0 21 RX0 "full" "Z" ∈ gw := gw_of (by decide +kernel) rfl
theorem wf_CH_25 : Cond.fieldLink RX0 25 RX0 "value" "I" ∈ gw := gw_of (by decide +kernel) rfl
theorem wf_CH_28 : Cond.fieldLink RX0 28 RX0 "hour" "I" ∈ gw := gw_of (by decide +kernel) rfl
theorem wk_CO_37 : Cond.constant RX1 37 (1048691) ∈ gw := gw_of (by decide +kernel) rfl
theorem wk_RE_13 : Cond.constant RX4 13 (-2147483648) ∈ gw := gw_of (by decide +kernel) rfl
theorem wk_SM_175 : Cond.constant RX7 175 (-1640531535) ∈ gw := gw_of (by decide +kernel) rfl
theorem wm_CO_15 : Cond.methodLink RX1 15 yX1_rs1 ∈ gw := gw_of (by decide +kernel) rfl
theorem wm_CO_18 : Cond.methodLink RX1 18 yX1_rs2 ∈ gw := gw_of (by decide +kernel) rfl
theorem wm_CO_21 : Cond.methodLink RX1 21 yX1_o ∈ gw := gw_of (by decide +kernel) rfl
theorem wm_CO_24 : Cond.methodLink RX1 24 yX1_f ∈ gw := gw_of (by decide +kernel) rfl
theorem wm_CO_27 : Cond.methodLink RX1 27 yX1_g ∈ gw := gw_of (by decide +kernel) rfl
theorem wm_CO_30 : Cond.methodLink RX1 30 yX1_isKnownWithImmediate ∈ gw := gw_of (by decide +kernel) rfl
theorem wm_CO_34 : Cond.methodLink RX1 34 yX1_isKnownWithRegister ∈ gw := gw_of (by decide +kernel) rfl
theorem wm_CO_9 : Cond.methodLink RX1 9 yX1_rd ∈ gw := gw_of (by decide +kernel) rfl
theorem wm_RE_7 : Cond.methodLink RX4 7 yX4_lessWithoutSign ∈ gw := gw_of (by decide +kernel) rfl
theorem wm_SM_40 : Cond.methodLink RX7 40 yX7_within ∈ gw := gw_of (by decide +kernel) rfl
theorem ws_CO_f : Cond.static yX1_f ∈ gw := gw_of (by decide +kernel) rfl
theorem ws_CO_g : Cond.static yX1_g ∈ gw := gw_of (by decide +kernel) rfl
theorem ws_CO_isKnownWithImmediate : Cond.static yX1_isKnownWithImmediate ∈ gw := gw_of (by decide +kernel) rfl
theorem ws_CO_isKnownWithRegister : Cond.static yX1_isKnownWithRegister ∈ gw := gw_of (by decide +kernel) rfl
theorem ws_CO_o : Cond.static yX1_o ∈ gw := gw_of (by decide +kernel) rfl
theorem ws_CO_rd : Cond.static yX1_rd ∈ gw := gw_of (by decide +kernel) rfl
theorem ws_CO_rs1 : Cond.static yX1_rs1 ∈ gw := gw_of (by decide +kernel) rfl
theorem ws_CO_rs2 : Cond.static yX1_rs2 ∈ gw := gw_of (by decide +kernel) rfl
theorem ws_RE_lessWithoutSign : Cond.static yX4_lessWithoutSign ∈ gw := gw_of (by decide +kernel) rfl
theorem ws_SM_within : Cond.static yX7_within ∈ gw := gw_of (by decide +kernel) rfl
end
section
section CLS
variable {l : Launch} {D : va_G} {rh : Nat → Nat} {cA : Nat → ClassId}
def f_SM_mix (xa : Int32) (xb : Int32) : Int32 :=
  ((((xa * 31) + xb) * (-1640531535)) ^^^ (ushr (((xa * 31) + xb) * (-1640531535)) 15))
set_option maxHeartbeats 4000000 in
set_option maxRecDepth 100000 in
theorem c_SM_mix (xa : Int32) (xb : Int32) (σ : St) : CI l D (tyL cA) rh (rcW rh cA) NW yX7_mix cX7_mix 3 .int 0 [.int xa, .int xb] σ (f_SM_mix xa xb) σ := by
  refine CI.of rfl (Nat.le_of_ble_eq_true rfl) rfl ?_
  intro p9 e s m args below meth c A Q X hend
  refine v_lv (lv' := [(0, .int xa), (1, .int xb)]) [0, 1] rfl ?_
  refine v_iload_n X 0 dX7_mix_0 rfl rfl ?_
  refine v_bipush (v := 31) X dX7_mix_1 (by decide) ?_
  refine v_imul X dX7_mix_3 ?_
  refine v_iload_n X 1 dX7_mix_4 rfl rfl ?_
  refine v_iadd X dX7_mix_5 ?_
  refine v_ldc (v := (-1640531535)) X wk_SM_175 dX7_mix_6 ?_
  refine v_imul X dX7_mix_8 ?_
  refine v_istore_n (lv' := [(2, .int (((xa * 31) + xb) * (-1640531535))), (0, .int xa), (1, .int xb)]) X dX7_mix_9 rfl (by decide) rfl ?_
  refine v_iload_n X 0 dX7_mix_10 rfl rfl ?_
  refine v_iload_n X 0 dX7_mix_11 rfl rfl ?_
  refine v_bipush (v := 15) X dX7_mix_12 (by decide) ?_
  refine v_iushr X dX7_mix_14 ?_
  refine v_ixor X dX7_mix_15 ?_
  have e9 : f_SM_mix xa xb = ((((xa * 31) + xb) * (-1640531535)) ^^^ (ushr (((xa * 31) + xb) * (-1640531535)) 15)) := by simp only [f_SM_mix]
  exact v_endI hend dX7_mix_16 e9 rfl
def f_SM_within (xa : Int32) (xb : Int32) (xc : Int32) : Int32 :=
  ((if xa < xb then 0 else (if xc < xa then 0 else 1)) : Int32)
theorem z_SM_within (xa : Int32) (xb : Int32) (xc : Int32) : (f_SM_within xa xb xc) = 0 ∨ (f_SM_within xa xb xc) = 1 := by
  unfold f_SM_within
  repeat' first | exact Or.inl rfl | exact Or.inr rfl | apply z_ite | split
set_option maxHeartbeats 4000000 in
set_option maxRecDepth 100000 in
theorem c_SM_within (xa : Int32) (xb : Int32) (xc : Int32) (σ : St) : CI l D (tyL cA) rh (rcW rh cA) NW yX7_within cX7_within 3 .boolean 0 [.int xa, .int xb, .int xc] σ (f_SM_within xa xb xc) σ := by
  refine CI.of rfl (Nat.le_of_ble_eq_true rfl) (zN (z_SM_within ..)) ?_
  intro p9 e s m args below meth c A Q X hend
  refine v_lv (lv' := [(0, .int xa), (1, .int xb), (2, .int xc)]) [0, 1, 2] rfl ?_
  refine v_iload_n X 0 dX7_within_0 rfl rfl ?_
  refine v_iload_n X 1 dX7_within_1 rfl rfl ?_
  refine v_suff (pc2 := 15) (lv2 := [(0, .int xa), (1, .int xb), (2, .int xc)]) (st2 := [.int ((if xa < xb then 0 else (if xc < xa then 0 else 1)) : Int32)]) (σ2 := σ) ?_ (fun J2 => ?_)
  rotate_left
  ·
    refine v_icmp_lt X 14 dX7_within_2 (by decide) (fun h2 => ?_) (fun h2 => ?_)
    ·
      refine v_iconst (v := 0) X dX7_within_14 (by decide) ?_
      have e9 : (((if xa < xb then 0 else (if xc < xa then 0 else 1)) : Int32) : Int32) = 0 := by simp only [if_pos h2]
      rw [e9] at J2
      exact J2
    ·
      refine v_iload_n X 0 dX7_within_5 rfl rfl ?_
      refine v_iload_n X 2 dX7_within_6 rfl rfl ?_
      refine v_icmp_gt X 14 dX7_within_7 (by decide) (fun h7 => ?_) (fun h7 => ?_)
      ·
        refine v_iconst (v := 0) X dX7_within_14 (by decide) ?_
        have e9 : (((if xa < xb then 0 else (if xc < xa then 0 else 1)) : Int32) : Int32) = 0 := by simp only [if_neg h2, if_pos h7]
        rw [e9] at J2
        exact J2
      ·
        refine v_iconst (v := 1) X dX7_within_10 (by decide) ?_
        refine v_goto (tgt := 15) X dX7_within_11 (by decide) ?_
        have e9 : (((if xa < xb then 0 else (if xc < xa then 0 else 1)) : Int32) : Int32) = 1 := by simp only [if_neg h2, if_neg h7]
        rw [e9] at J2
        exact J2
  have e9 : f_SM_within xa xb xc = ((if xa < xb then 0 else (if xc < xa then 0 else 1)) : Int32) := by simp only [f_SM_within]
  exact v_endI hend dX7_within_15 e9 rfl
def f_SM_isPartition (xa : Int32) : Int32 :=
  (f_SM_within xa 0 3)
theorem z_SM_isPartition (xa : Int32) : (f_SM_isPartition xa) = 0 ∨ (f_SM_isPartition xa) = 1 := by
  unfold f_SM_isPartition
  repeat' first | exact Or.inl rfl | exact Or.inr rfl | exact z_SM_within .. | apply z_ite | split
set_option maxHeartbeats 4000000 in
set_option maxRecDepth 100000 in
theorem c_SM_isPartition (xa : Int32) (σ : St) : CI l D (tyL cA) rh (rcW rh cA) NW yX7_isPartition cX7_isPartition 1 .boolean 1 [.int xa] σ (f_SM_isPartition xa) σ := by
  refine CI.of rfl (Nat.le_of_ble_eq_true rfl) (zN (z_SM_isPartition ..)) ?_
  intro p9 e s m args below meth c A Q X hend
  refine v_lv (lv' := [(0, .int xa)]) [0] rfl ?_
  refine v_iload_n X 0 dX7_isPartition_0 rfl rfl ?_
  refine v_iconst (v := 0) X dX7_isPartition_1 (by decide) ?_
  refine v_iconst (v := 3) X dX7_isPartition_2 (by decide) ?_
  refine v_callS_CI (rest := []) X [.int xa, .int 0, .int 3] (c_SM_within xa 0 3 σ ) mf_SM_within ws_SM_within wm_SM_40 rfl ⟨by decide, by decide⟩ (Nat.le_of_ble_eq_true rfl) ⟨by decide, by decide⟩ dX7_isPartition_3 ?_
  have e9 : f_SM_isPartition xa = (f_SM_within xa 0 3) := by simp only [f_SM_isPartition]
  exact v_endI hend dX7_isPartition_6 e9 rfl
def f_SM_isChannel (xa : Int32) : Int32 :=
  (f_SM_within xa 0 3)
theorem z_SM_isChannel (xa : Int32) : (f_SM_isChannel xa) = 0 ∨ (f_SM_isChannel xa) = 1 := by
  unfold f_SM_isChannel
  repeat' first | exact Or.inl rfl | exact Or.inr rfl | exact z_SM_within .. | apply z_ite | split
set_option maxHeartbeats 4000000 in
set_option maxRecDepth 100000 in
theorem c_SM_isChannel (xa : Int32) (σ : St) : CI l D (tyL cA) rh (rcW rh cA) NW yX7_isChannel cX7_isChannel 1 .boolean 1 [.int xa] σ (f_SM_isChannel xa) σ := by
  refine CI.of rfl (Nat.le_of_ble_eq_true rfl) (zN (z_SM_isChannel ..)) ?_
  intro p9 e s m args below meth c A Q X hend
  refine v_lv (lv' := [(0, .int xa)]) [0] rfl ?_
  refine v_iload_n X 0 dX7_isChannel_0 rfl rfl ?_
  refine v_iconst (v := 0) X dX7_isChannel_1 (by decide) ?_
  refine v_iconst (v := 3) X dX7_isChannel_2 (by decide) ?_
  refine v_callS_CI (rest := []) X [.int xa, .int 0, .int 3] (c_SM_within xa 0 3 σ ) mf_SM_within ws_SM_within wm_SM_40 rfl ⟨by decide, by decide⟩ (Nat.le_of_ble_eq_true rfl) ⟨by decide, by decide⟩ dX7_isChannel_3 ?_
  have e9 : f_SM_isChannel xa = (f_SM_within xa 0 3) := by simp only [f_SM_isChannel]
  exact v_endI hend dX7_isChannel_6 e9 rfl
def f_SM_isWord (xa : Int32) : Int32 :=
  (f_SM_within xa 0 95)
theorem z_SM_isWord (xa : Int32) : (f_SM_isWord xa) = 0 ∨ (f_SM_isWord xa) = 1 := by
  unfold f_SM_isWord
  repeat' first | exact Or.inl rfl | exact Or.inr rfl | exact z_SM_within .. | apply z_ite | split
set_option maxHeartbeats 4000000 in
set_option maxRecDepth 100000 in
theorem c_SM_isWord (xa : Int32) (σ : St) : CI l D (tyL cA) rh (rcW rh cA) NW yX7_isWord cX7_isWord 1 .boolean 1 [.int xa] σ (f_SM_isWord xa) σ := by
  refine CI.of rfl (Nat.le_of_ble_eq_true rfl) (zN (z_SM_isWord ..)) ?_
  intro p9 e s m args below meth c A Q X hend
  refine v_lv (lv' := [(0, .int xa)]) [0] rfl ?_
  refine v_iload_n X 0 dX7_isWord_0 rfl rfl ?_
  refine v_iconst (v := 0) X dX7_isWord_1 (by decide) ?_
  refine v_bipush (v := 95) X dX7_isWord_2 (by decide) ?_
  refine v_callS_CI (rest := []) X [.int xa, .int 0, .int 95] (c_SM_within xa 0 95 σ ) mf_SM_within ws_SM_within wm_SM_40 rfl ⟨by decide, by decide⟩ (Nat.le_of_ble_eq_true rfl) ⟨by decide, by decide⟩ dX7_isWord_4 ?_
  have e9 : f_SM_isWord xa = (f_SM_within xa 0 95) := by simp only [f_SM_isWord]
  exact v_endI hend dX7_isWord_7 e9 rfl
def f_CH_clear (p : Nat) (σ : St) : St :=
  (up σ (iC p) 3 0)
set_option maxHeartbeats 4000000 in
set_option maxRecDepth 100000 in
theorem c_CH_clear {p : Nat} (hp : p < 4) (σ : St) : CV l D (tyL cA) rh (rcW rh cA) NW yX0_clear cX0_clear 1 0 [.ref (rh (iC p))] σ (f_CH_clear p σ) := by
  refine CV.of rfl (Nat.le_of_ble_eq_true rfl) ?_
  intro p9 e s m args below meth c A Q X hend
  refine v_lv (lv' := [(0, .ref (rh (iC p)))]) [0] rfl ?_
  refine v_aload_n X 0 dX0_clear_0 rfl rfl ?_
  refine v_iconst (v := 0) X dX0_clear_1 (by decide) ?_
  refine v_put (i := (iC p)) (k := 3) (x := 0) (ty := .boolean) X (lt_CH hp) (sh_CH hp) rfl in_CH (by decide) tyX0 tyX0_ok nX0 wf_CH_21 rfl rfl rfl (zN (Or.inl rfl)) (zF (Or.inl rfl)) (fun _ => Nat.le_of_ble_eq_true rfl) (fun _ _ => rfl) dX0_clear_2 ?_
  have e9 : f_CH_clear p σ = (up σ (iC p) 3 0) := by simp only [f_CH_clear]
  exact v_endV hend dX0_clear_5 e9
theorem I_CH_clear (p : Nat) {σ : St} (hI : Ic σ) : Ic (f_CH_clear p σ) := by
  unfold f_CH_clear
  exact (Ic.upCH hI)
def f_CH_write (p : Nat) (xa : Int32) (xb : Int32) (σ : St) : St :=
  (up (up (up σ (iC p) 3 1) (iC p) 4 xa) (iC p) 5 xb)
set_option maxHeartbeats 4000000 in
set_option maxRecDepth 100000 in
theorem c_CH_write {p : Nat} (hp : p < 4) (xa : Int32) (xb : Int32) (σ : St) : CV l D (tyL cA) rh (rcW rh cA) NW yX0_write cX0_write 3 0 [.ref (rh (iC p)), .int xa, .int xb] σ (f_CH_write p xa xb σ) := by
  refine CV.of rfl (Nat.le_of_ble_eq_true rfl) ?_
  intro p9 e s m args below meth c A Q X hend
  refine v_lv (lv' := [(0, .ref (rh (iC p))), (1, .int xa), (2, .int xb)]) [0, 1, 2] rfl ?_
  refine v_aload_n X 0 dX0_write_0 rfl rfl ?_
  refine v_iconst (v := 1) X dX0_write_1 (by decide) ?_
  refine v_put (i := (iC p)) (k := 3) (x := 1) (ty := .boolean) X (lt_CH hp) (sh_CH hp) rfl in_CH (by decide) tyX0 tyX0_ok nX0 wf_CH_21 rfl rfl rfl (zN (Or.inr rfl)) (zF (Or.inr rfl)) (fun _ => Nat.le_of_ble_eq_true rfl) (fun _ _ => rfl) dX0_write_2 ?_
  refine v_aload_n X 0 dX0_write_5 rfl rfl ?_
  refine v_iload_n X 1 dX0_write_6 rfl rfl ?_
  refine v_put (i := (iC p)) (k := 4) (x := xa) (ty := .int) X (lt_CH hp) (sh_CH hp) rfl in_CH (by decide) tyX0 tyX0_ok nX0 wf_CH_25 rfl rfl rfl rfl rfl (fun _ => Nat.le_of_ble_eq_true rfl) (fun _ _ => rfl) dX0_write_7 ?_
  refine v_aload_n X 0 dX0_write_10 rfl rfl ?_
  refine v_iload_n X 2 dX0_write_11 rfl rfl ?_
  refine v_put (i := (iC p)) (k := 5) (x := xb) (ty := .int) X (lt_CH hp) (sh_CH hp) rfl in_CH (by decide) tyX0 tyX0_ok nX0 wf_CH_28 rfl rfl rfl rfl rfl (fun _ => Nat.le_of_ble_eq_true rfl) (fun _ _ => rfl) dX0_write_12 ?_
  have e9 : f_CH_write p xa xb σ = (up (up (up σ (iC p) 3 1) (iC p) 4 xa) (iC p) 5 xb) := by simp only [f_CH_write]
  exact v_endV hend dX0_write_15 e9
theorem I_CH_write (p : Nat) (xa : Int32) (xb : Int32) {σ : St} (hI : Ic σ) : Ic (f_CH_write p xa xb σ) := by
  unfold f_CH_write
  exact (Ic.upCH (Ic.upCH (Ic.upCH hI)))
def f_CH_valueOrZero (p : Nat) (σ : St) : Int32 :=
  ((if (σ (iC p) 3) = 0 then 0 else (σ (iC p) 4)) : Int32)
set_option maxHeartbeats 4000000 in
set_option maxRecDepth 100000 in
theorem c_CH_valueOrZero {p : Nat} (hp : p < 4) (σ : St) : CI l D (tyL cA) rh (rcW rh cA) NW yX0_valueOrZero cX0_valueOrZero 1 .int 0 [.ref (rh (iC p))] σ (f_CH_valueOrZero p σ) σ := by
  refine CI.of rfl (Nat.le_of_ble_eq_true rfl) rfl ?_
  intro p9 e s m args below meth c A Q X hend
  refine v_lv (lv' := [(0, .ref (rh (iC p)))]) [0] rfl ?_
  refine v_aload_n X 0 dX0_valueOrZero_0 rfl rfl ?_
  refine v_getI (i := (iC p)) (k := 3) X (lt_CH hp) (sh_CH hp) rfl in_CH (by decide) wf_CH_21 rfl (fun _ => rfl) dX0_valueOrZero_1 ?_
  refine v_suff (pc2 := 15) (lv2 := [(0, .ref (rh (iC p)))]) (st2 := [.int ((if (σ (iC p) 3) = 0 then 0 else (σ (iC p) 4)) : Int32)]) (σ2 := σ) ?_ (fun J4 => ?_)
  rotate_left
  ·
    refine v_if_eq X 14 dX0_valueOrZero_4 (by decide) (fun h4 => ?_) (fun h4 => ?_)
    ·
      refine v_iconst (v := 0) X dX0_valueOrZero_14 (by decide) ?_
      have e9 : (((if (σ (iC p) 3) = 0 then 0 else (σ (iC p) 4)) : Int32) : Int32) = 0 := by simp only [if_pos h4]
      rw [e9] at J4
      exact J4
    ·
      refine v_aload_n X 0 dX0_valueOrZero_7 rfl rfl ?_
      refine v_getI (i := (iC p)) (k := 4) X (lt_CH hp) (sh_CH hp) rfl in_CH (by decide) wf_CH_25 rfl (fun _ => rfl) dX0_valueOrZero_8 ?_
      refine v_goto (tgt := 15) X dX0_valueOrZero_11 (by decide) ?_
      have e9 : (((if (σ (iC p) 3) = 0 then 0 else (σ (iC p) 4)) : Int32) : Int32) = (σ (iC p) 4) := by simp only [if_neg h4]
      rw [e9] at J4
      exact J4
  have e9 : f_CH_valueOrZero p σ = ((if (σ (iC p) 3) = 0 then 0 else (σ (iC p) 4)) : Int32) := by simp only [f_CH_valueOrZero]
  exact v_endI hend dX0_valueOrZero_15 e9 rfl
def f_CH_hourOrNone (p : Nat) (σ : St) : Int32 :=
  ((if (σ (iC p) 3) = 0 then (-1) else (σ (iC p) 5)) : Int32)
set_option maxHeartbeats 4000000 in
set_option maxRecDepth 100000 in
theorem c_CH_hourOrNone {p : Nat} (hp : p < 4) (σ : St) : CI l D (tyL cA) rh (rcW rh cA) NW yX0_hourOrNone cX0_hourOrNone 1 .int 0 [.ref (rh (iC p))] σ (f_CH_hourOrNone p σ) σ := by
  refine CI.of rfl (Nat.le_of_ble_eq_true rfl) rfl ?_
  intro p9 e s m args below meth c A Q X hend
  refine v_lv (lv' := [(0, .ref (rh (iC p)))]) [0] rfl ?_
  refine v_aload_n X 0 dX0_hourOrNone_0 rfl rfl ?_
  refine v_getI (i := (iC p)) (k := 3) X (lt_CH hp) (sh_CH hp) rfl in_CH (by decide) wf_CH_21 rfl (fun _ => rfl) dX0_hourOrNone_1 ?_
  refine v_suff (pc2 := 15) (lv2 := [(0, .ref (rh (iC p)))]) (st2 := [.int ((if (σ (iC p) 3) = 0 then (-1) else (σ (iC p) 5)) : Int32)]) (σ2 := σ) ?_ (fun J4 => ?_)
  rotate_left
  ·
    refine v_if_eq X 14 dX0_hourOrNone_4 (by decide) (fun h4 => ?_) (fun h4 => ?_)
    ·
      refine v_iconst (v := (-1)) X dX0_hourOrNone_14 (by decide) ?_
      have e9 : (((if (σ (iC p) 3) = 0 then (-1) else (σ (iC p) 5)) : Int32) : Int32) = (-1) := by simp only [if_pos h4]
      rw [e9] at J4
      exact J4
    ·
      refine v_aload_n X 0 dX0_hourOrNone_7 rfl rfl ?_
      refine v_getI (i := (iC p)) (k := 5) X (lt_CH hp) (sh_CH hp) rfl in_CH (by decide) wf_CH_28 rfl (fun _ => rfl) dX0_hourOrNone_8 ?_
      refine v_goto (tgt := 15) X dX0_hourOrNone_11 (by decide) ?_
      have e9 : (((if (σ (iC p) 3) = 0 then (-1) else (σ (iC p) 5)) : Int32) : Int32) = (σ (iC p) 5) := by simp only [if_neg h4]
      rw [e9] at J4
      exact J4
  have e9 : f_CH_hourOrNone p σ = ((if (σ (iC p) 3) = 0 then (-1) else (σ (iC p) 5)) : Int32) := by simp only [f_CH_hourOrNone]
  exact v_endI hend dX0_hourOrNone_15 e9 rfl
def f_CH_age (p : Nat) (xa : Int32) (σ : St) : Int32 :=
  ((if (σ (iC p) 3) = 0 then (-1) else (if (σ (iC p) 2) < (xa - (σ (iC p) 5)) then (-1) else (xa - (σ (iC p) 5)))) : Int32)
set_option maxHeartbeats 4000000 in
set_option maxRecDepth 100000 in
theorem c_CH_age {p : Nat} (hp : p < 4) (xa : Int32) (σ : St) : CI l D (tyL cA) rh (rcW rh cA) NW yX0_age cX0_age 2 .int 0 [.ref (rh (iC p)), .int xa] σ (f_CH_age p xa σ) σ := by
  refine CI.of rfl (Nat.le_of_ble_eq_true rfl) rfl ?_
  intro p9 e s m args below meth c A Q X hend
  refine v_lv (lv' := [(0, .ref (rh (iC p))), (1, .int xa)]) [0, 1] rfl ?_
  refine v_aload_n X 0 dX0_age_0 rfl rfl ?_
  refine v_getI (i := (iC p)) (k := 3) X (lt_CH hp) (sh_CH hp) rfl in_CH (by decide) wf_CH_21 rfl (fun _ => rfl) dX0_age_1 ?_
  refine v_suff (pc2 := 30) (lv2 := [(0, .ref (rh (iC p))), (1, .int xa)]) (st2 := [.int ((if (σ (iC p) 3) = 0 then (-1) else (if (σ (iC p) 2) < (xa - (σ (iC p) 5)) then (-1) else (xa - (σ (iC p) 5)))) : Int32)]) (σ2 := σ) ?_ (fun J4 => ?_)
  rotate_left
  ·
    refine v_if_eq X 29 dX0_age_4 (by decide) (fun h4 => ?_) (fun h4 => ?_)
    ·
      refine v_iconst (v := (-1)) X dX0_age_29 (by decide) ?_
      have e9 : (((if (σ (iC p) 3) = 0 then (-1) else (if (σ (iC p) 2) < (xa - (σ (iC p) 5)) then (-1) else (xa - (σ (iC p) 5)))) : Int32) : Int32) = (-1) := by simp only [if_pos h4]
      rw [e9] at J4
      exact J4
    ·
      refine v_iload_n X 1 dX0_age_7 rfl rfl ?_
      refine v_aload_n X 0 dX0_age_8 rfl rfl ?_
      refine v_getI (i := (iC p)) (k := 5) X (lt_CH hp) (sh_CH hp) rfl in_CH (by decide) wf_CH_28 rfl (fun _ => rfl) dX0_age_9 ?_
      refine v_isub X dX0_age_12 ?_
      refine v_aload_n X 0 dX0_age_13 rfl rfl ?_
      refine v_getI (i := (iC p)) (k := 2) X (lt_CH hp) (sh_CH hp) rfl in_CH (by decide) wf_CH_18 rfl (fun _ => rfl) dX0_age_14 ?_
      refine v_icmp_gt X 29 dX0_age_17 (by decide) (fun h17 => ?_) (fun h17 => ?_)
      ·
        refine v_iconst (v := (-1)) X dX0_age_29 (by decide) ?_
        have e9 : (((if (σ (iC p) 3) = 0 then (-1) else (if (σ (iC p) 2) < (xa - (σ (iC p) 5)) then (-1) else (xa - (σ (iC p) 5)))) : Int32) : Int32) = (-1) := by simp only [if_neg h4, if_pos h17]
        rw [e9] at J4
        exact J4
      ·
        refine v_iload_n X 1 dX0_age_20 rfl rfl ?_
        refine v_aload_n X 0 dX0_age_21 rfl rfl ?_
        refine v_getI (i := (iC p)) (k := 5) X (lt_CH hp) (sh_CH hp) rfl in_CH (by decide) wf_CH_28 rfl (fun _ => rfl) dX0_age_22 ?_
        refine v_isub X dX0_age_25 ?_
        refine v_goto (tgt := 30) X dX0_age_26 (by decide) ?_
        have e9 : (((if (σ (iC p) 3) = 0 then (-1) else (if (σ (iC p) 2) < (xa - (σ (iC p) 5)) then (-1) else (xa - (σ (iC p) 5)))) : Int32) : Int32) = (xa - (σ (iC p) 5)) := by simp only [if_neg h4, if_neg h17]
        rw [e9] at J4
        exact J4
  have e9 : f_CH_age p xa σ = ((if (σ (iC p) 3) = 0 then (-1) else (if (σ (iC p) 2) < (xa - (σ (iC p) 5)) then (-1) else (xa - (σ (iC p) 5)))) : Int32) := by simp only [f_CH_age]
  exact v_endI hend dX0_age_30 e9 rfl
def f_CO_o (xa : Int32) : Int32 :=
  (xa &&& 127)
set_option maxHeartbeats 4000000 in
set_option maxRecDepth 100000 in
theorem c_CO_o (xa : Int32) (σ : St) : CI l D (tyL cA) rh (rcW rh cA) NW yX1_o cX1_o 1 .int 0 [.int xa] σ (f_CO_o xa) σ := by
  refine CI.of rfl (Nat.le_of_ble_eq_true rfl) rfl ?_
  intro p9 e s m args below meth c A Q X hend
  refine v_lv (lv' := [(0, .int xa)]) [0] rfl ?_
  refine v_iload_n X 0 dX1_o_0 rfl rfl ?_
  refine v_bipush (v := 127) X dX1_o_1 (by decide) ?_
  refine v_iand X dX1_o_3 ?_
  have e9 : f_CO_o xa = (xa &&& 127) := by simp only [f_CO_o]
  exact v_endI hend dX1_o_4 e9 rfl
def f_CO_f (xa : Int32) : Int32 :=
  ((ushr xa 12) &&& 7)
set_option maxHeartbeats 4000000 in
set_option maxRecDepth 100000 in
theorem c_CO_f (xa : Int32) (σ : St) : CI l D (tyL cA) rh (rcW rh cA) NW yX1_f cX1_f 1 .int 0 [.int xa] σ (f_CO_f xa) σ := by
  refine CI.of rfl (Nat.le_of_ble_eq_true rfl) rfl ?_
  intro p9 e s m args below meth c A Q X hend
  refine v_lv (lv' := [(0, .int xa)]) [0] rfl ?_
  refine v_iload_n X 0 dX1_f_0 rfl rfl ?_
  refine v_bipush (v := 12) X dX1_f_1 (by decide) ?_
  refine v_iushr X dX1_f_3 ?_
  refine v_bipush (v := 7) X dX1_f_4 (by decide) ?_
  refine v_iand X dX1_f_6 ?_
  have e9 : f_CO_f xa = ((ushr xa 12) &&& 7) := by simp only [f_CO_f]
  exact v_endI hend dX1_f_7 e9 rfl
def f_CO_g (xa : Int32) : Int32 :=
  (ushr xa 25)
set_option maxHeartbeats 4000000 in
set_option maxRecDepth 100000 in
theorem c_CO_g (xa : Int32) (σ : St) : CI l D (tyL cA) rh (rcW rh cA) NW yX1_g cX1_g 1 .int 0 [.int xa] σ (f_CO_g xa) σ := by
  refine CI.of rfl (Nat.le_of_ble_eq_true rfl) rfl ?_
  intro p9 e s m args below meth c A Q X hend
  refine v_lv (lv' := [(0, .int xa)]) [0] rfl ?_
  refine v_iload_n X 0 dX1_g_0 rfl rfl ?_
  refine v_bipush (v := 25) X dX1_g_1 (by decide) ?_
  refine v_iushr X dX1_g_3 ?_
  have e9 : f_CO_g xa = (ushr xa 25) := by simp only [f_CO_g]
  exact v_endI hend dX1_g_4 e9 rfl
def f_CO_rd (xa : Int32) : Int32 :=
  ((ushr xa 7) &&& 31)
set_option maxHeartbeats 4000000 in
set_option maxRecDepth 100000 in
theorem c_CO_rd (xa : Int32) (σ : St) : CI l D (tyL cA) rh (rcW rh cA) NW yX1_rd cX1_rd 1 .int 0 [.int xa] σ (f_CO_rd xa) σ := by
  refine CI.of rfl (Nat.le_of_ble_eq_true rfl) rfl ?_
  intro p9 e s m args below meth c A Q X hend
  refine v_lv (lv' := [(0, .int xa)]) [0] rfl ?_
  refine v_iload_n X 0 dX1_rd_0 rfl rfl ?_
  refine v_bipush (v := 7) X dX1_rd_1 (by decide) ?_
  refine v_iushr X dX1_rd_3 ?_
  refine v_bipush (v := 31) X dX1_rd_4 (by decide) ?_
  refine v_iand X dX1_rd_6 ?_
  have e9 : f_CO_rd xa = ((ushr xa 7) &&& 31) := by simp only [f_CO_rd]
  exact v_endI hend dX1_rd_7 e9 rfl
def f_CO_rs1 (xa : Int32) : Int32 :=
  ((ushr xa 15) &&& 31)
set_option maxHeartbeats 4000000 in
set_option maxRecDepth 100000 in
theorem c_CO_rs1 (xa : Int32) (σ : St) : CI l D (tyL cA) rh (rcW rh cA) NW yX1_rs1 cX1_rs1 1 .int 0 [.int xa] σ (f_CO_rs1 xa) σ := by
  refine CI.of rfl (Nat.le_of_ble_eq_true rfl) rfl ?_
  intro p9 e s m args below meth c A Q X hend
  refine v_lv (lv' := [(0, .int xa)]) [0] rfl ?_
  refine v_iload_n X 0 dX1_rs1_0 rfl rfl ?_
  refine v_bipush (v := 15) X dX1_rs1_1 (by decide) ?_
  refine v_iushr X dX1_rs1_3 ?_
  refine v_bipush (v := 31) X dX1_rs1_4 (by decide) ?_
  refine v_iand X dX1_rs1_6 ?_
  have e9 : f_CO_rs1 xa = ((ushr xa 15) &&& 31) := by simp only [f_CO_rs1]
  exact v_endI hend dX1_rs1_7 e9 rfl
def f_CO_rs2 (xa : Int32) : Int32 :=
  ((ushr xa 20) &&& 31)
set_option maxHeartbeats 4000000 in
set_option maxRecDepth 100000 in
theorem c_CO_rs2 (xa : Int32) (σ : St) : CI l D (tyL cA) rh (rcW rh cA) NW yX1_rs2 cX1_rs2 1 .int 0 [.int xa] σ (f_CO_rs2 xa) σ := by
  refine CI.of rfl (Nat.le_of_ble_eq_true rfl) rfl ?_
  intro p9 e s m args below meth c A Q X hend
  refine v_lv (lv' := [(0, .int xa)]) [0] rfl ?_
  refine v_iload_n X 0 dX1_rs2_0 rfl rfl ?_
  refine v_bipush (v := 20) X dX1_rs2_1 (by decide) ?_
  refine v_iushr X dX1_rs2_3 ?_
  refine v_bipush (v := 31) X dX1_rs2_4 (by decide) ?_
  refine v_iand X dX1_rs2_6 ?_
  have e9 : f_CO_rs2 xa = ((ushr xa 20) &&& 31) := by simp only [f_CO_rs2]
  exact v_endI hend dX1_rs2_7 e9 rfl
def f_CO_immediateI (xa : Int32) : Int32 :=
  (sshr xa 20)
set_option maxHeartbeats 4000000 in
set_option maxRecDepth 100000 in
theorem c_CO_immediateI (xa : Int32) (σ : St) : CI l D (tyL cA) rh (rcW rh cA) NW yX1_immediateI cX1_immediateI 1 .int 0 [.int xa] σ (f_CO_immediateI xa) σ := by
  refine CI.of rfl (Nat.le_of_ble_eq_true rfl) rfl ?_
  intro p9 e s m args below meth c A Q X hend
  refine v_lv (lv' := [(0, .int xa)]) [0] rfl ?_
  refine v_iload_n X 0 dX1_immediateI_0 rfl rfl ?_
  refine v_bipush (v := 20) X dX1_immediateI_1 (by decide) ?_
  refine v_ishr X dX1_immediateI_3 ?_
  have e9 : f_CO_immediateI xa = (sshr xa 20) := by simp only [f_CO_immediateI]
  exact v_endI hend dX1_immediateI_4 e9 rfl
def f_CO_immediateU (xa : Int32) : Int32 :=
  (xa &&& (-4096))
set_option maxHeartbeats 4000000 in
set_option maxRecDepth 100000 in
theorem c_CO_immediateU (xa : Int32) (σ : St) : CI l D (tyL cA) rh (rcW rh cA) NW yX1_immediateU cX1_immediateU 1 .int 0 [.int xa] σ (f_CO_immediateU xa) σ := by
  refine CI.of rfl (Nat.le_of_ble_eq_true rfl) rfl ?_
  intro p9 e s m args below meth c A Q X hend
  refine v_lv (lv' := [(0, .int xa)]) [0] rfl ?_
  refine v_iload_n X 0 dX1_immediateU_0 rfl rfl ?_
  refine v_sipush (v := (-4096)) X dX1_immediateU_1 (by decide) ?_
  refine v_iand X dX1_immediateU_4 ?_
  have e9 : f_CO_immediateU xa = (xa &&& (-4096)) := by simp only [f_CO_immediateU]
  exact v_endI hend dX1_immediateU_5 e9 rfl
def f_CO_immediateS (xa : Int32) : Int32 :=
  ((shl (sshr xa 25) 5) ||| ((ushr xa 7) &&& 31))
set_option maxHeartbeats 4000000 in
set_option maxRecDepth 100000 in
theorem c_CO_immediateS (xa : Int32) (σ : St) : CI l D (tyL cA) rh (rcW rh cA) NW yX1_immediateS cX1_immediateS 1 .int 0 [.int xa] σ (f_CO_immediateS xa) σ := by
  refine CI.of rfl (Nat.le_of_ble_eq_true rfl) rfl ?_
  intro p9 e s m args below meth c A Q X hend
  refine v_lv (lv' := [(0, .int xa)]) [0] rfl ?_
  refine v_iload_n X 0 dX1_immediateS_0 rfl rfl ?_
  refine v_bipush (v := 25) X dX1_immediateS_1 (by decide) ?_
  refine v_ishr X dX1_immediateS_3 ?_
  refine v_iconst (v := 5) X dX1_immediateS_4 (by decide) ?_
  refine v_ishl X dX1_immediateS_5 ?_
  refine v_iload_n X 0 dX1_immediateS_6 rfl rfl ?_
  refine v_bipush (v := 7) X dX1_immediateS_7 (by decide) ?_
  refine v_iushr X dX1_immediateS_9 ?_
  refine v_bipush (v := 31) X dX1_immediateS_10 (by decide) ?_
  refine v_iand X dX1_immediateS_12 ?_
  refine v_ior X dX1_immediateS_13 ?_
  have e9 : f_CO_immediateS xa = ((shl (sshr xa 25) 5) ||| ((ushr xa 7) &&& 31)) := by simp only [f_CO_immediateS]
  exact v_endI hend dX1_immediateS_14 e9 rfl
def f_CO_immediateB (xa : Int32) : Int32 :=
  ((((shl (sshr xa 31) 12) ||| (shl ((ushr xa 7) &&& 1) 11)) ||| (shl ((ushr xa 25) &&& 63) 5)) ||| (shl ((ushr xa 8) &&& 15) 1))
set_option maxHeartbeats 4000000 in
set_option maxRecDepth 100000 in
theorem c_CO_immediateB (xa : Int32) (σ : St) : CI l D (tyL cA) rh (rcW rh cA) NW yX1_immediateB cX1_immediateB 1 .int 0 [.int xa] σ (f_CO_immediateB xa) σ := by
  refine CI.of rfl (Nat.le_of_ble_eq_true rfl) rfl ?_
  intro p9 e s m args below meth c A Q X hend
  refine v_lv (lv' := [(0, .int xa)]) [0] rfl ?_
  refine v_iload_n X 0 dX1_immediateB_0 rfl rfl ?_
  refine v_bipush (v := 31) X dX1_immediateB_1 (by decide) ?_
  refine v_ishr X dX1_immediateB_3 ?_
  refine v_bipush (v := 12) X dX1_immediateB_4 (by decide) ?_
  refine v_ishl X dX1_immediateB_6 ?_
  refine v_iload_n X 0 dX1_immediateB_7 rfl rfl ?_
  refine v_bipush (v := 7) X dX1_immediateB_8 (by decide) ?_
  refine v_iushr X dX1_immediateB_10 ?_
  refine v_iconst (v := 1) X dX1_immediateB_11 (by decide) ?_
  refine v_iand X dX1_immediateB_12 ?_
  refine v_bipush (v := 11) X dX1_immediateB_13 (by decide) ?_
  refine v_ishl X dX1_immediateB_15 ?_
  refine v_ior X dX1_immediateB_16 ?_
  refine v_iload_n X 0 dX1_immediateB_17 rfl rfl ?_
  refine v_bipush (v := 25) X dX1_immediateB_18 (by decide) ?_
  refine v_iushr X dX1_immediateB_20 ?_
  refine v_bipush (v := 63) X dX1_immediateB_21 (by decide) ?_
  refine v_iand X dX1_immediateB_23 ?_
  refine v_iconst (v := 5) X dX1_immediateB_24 (by decide) ?_
  refine v_ishl X dX1_immediateB_25 ?_
  refine v_ior X dX1_immediateB_26 ?_
  refine v_iload_n X 0 dX1_immediateB_27 rfl rfl ?_
  refine v_bipush (v := 8) X dX1_immediateB_28 (by decide) ?_
  refine v_iushr X dX1_immediateB_30 ?_
  refine v_bipush (v := 15) X dX1_immediateB_31 (by decide) ?_
  refine v_iand X dX1_immediateB_33 ?_
  refine v_iconst (v := 1) X dX1_immediateB_34 (by decide) ?_
  refine v_ishl X dX1_immediateB_35 ?_
  refine v_ior X dX1_immediateB_36 ?_
  have e9 : f_CO_immediateB xa = ((((shl (sshr xa 31) 12) ||| (shl ((ushr xa 7) &&& 1) 11)) ||| (shl ((ushr xa 25) &&& 63) 5)) ||| (shl ((ushr xa 8) &&& 15) 1)) := by simp only [f_CO_immediateB]
  exact v_endI hend dX1_immediateB_37 e9 rfl
def f_CO_immediateJ (xa : Int32) : Int32 :=
  ((((shl (sshr xa 31) 20) ||| (shl ((ushr xa 12) &&& 255) 12)) ||| (shl ((ushr xa 20) &&& 1) 11)) ||| (shl ((ushr xa 21) &&& 1023) 1))
set_option maxHeartbeats 4000000 in
set_option maxRecDepth 100000 in
theorem c_CO_immediateJ (xa : Int32) (σ : St) : CI l D (tyL cA) rh (rcW rh cA) NW yX1_immediateJ cX1_immediateJ 1 .int 0 [.int xa] σ (f_CO_immediateJ xa) σ := by
  refine CI.of rfl (Nat.le_of_ble_eq_true rfl) rfl ?_
  intro p9 e s m args below meth c A Q X hend
  refine v_lv (lv' := [(0, .int xa)]) [0] rfl ?_
  refine v_iload_n X 0 dX1_immediateJ_0 rfl rfl ?_
  refine v_bipush (v := 31) X dX1_immediateJ_1 (by decide) ?_
  refine v_ishr X dX1_immediateJ_3 ?_
  refine v_bipush (v := 20) X dX1_immediateJ_4 (by decide) ?_
  refine v_ishl X dX1_immediateJ_6 ?_
  refine v_iload_n X 0 dX1_immediateJ_7 rfl rfl ?_
  refine v_bipush (v := 12) X dX1_immediateJ_8 (by decide) ?_
  refine v_iushr X dX1_immediateJ_10 ?_
  refine v_sipush (v := 255) X dX1_immediateJ_11 (by decide) ?_
  refine v_iand X dX1_immediateJ_14 ?_
  refine v_bipush (v := 12) X dX1_immediateJ_15 (by decide) ?_
  refine v_ishl X dX1_immediateJ_17 ?_
  refine v_ior X dX1_immediateJ_18 ?_
  refine v_iload_n X 0 dX1_immediateJ_19 rfl rfl ?_
  refine v_bipush (v := 20) X dX1_immediateJ_20 (by decide) ?_
  refine v_iushr X dX1_immediateJ_22 ?_
  refine v_iconst (v := 1) X dX1_immediateJ_23 (by decide) ?_
  refine v_iand X dX1_immediateJ_24 ?_
  refine v_bipush (v := 11) X dX1_immediateJ_25 (by decide) ?_
  refine v_ishl X dX1_immediateJ_27 ?_
  refine v_ior X dX1_immediateJ_28 ?_
  refine v_iload_n X 0 dX1_immediateJ_29 rfl rfl ?_
  refine v_bipush (v := 21) X dX1_immediateJ_30 (by decide) ?_
  refine v_iushr X dX1_immediateJ_32 ?_
  refine v_sipush (v := 1023) X dX1_immediateJ_33 (by decide) ?_
  refine v_iand X dX1_immediateJ_36 ?_
  refine v_iconst (v := 1) X dX1_immediateJ_37 (by decide) ?_
  refine v_ishl X dX1_immediateJ_38 ?_
  refine v_ior X dX1_immediateJ_39 ?_
  have e9 : f_CO_immediateJ xa = ((((shl (sshr xa 31) 20) ||| (shl ((ushr xa 12) &&& 255) 12)) ||| (shl ((ushr xa 20) &&& 1) 11)) ||| (shl ((ushr xa 21) &&& 1023) 1)) := by simp only [f_CO_immediateJ]
  exact v_endI hend dX1_immediateJ_40 e9 rfl
def f_CO_isKnownWithImmediate (xa : Int32) (xb : Int32) : Int32 :=
  (if xa = 1 then ((if xb = 0 then 1 else 0) : Int32) else ((if xa = 5 then (if xb = 0 then 1 else (if xb = 32 then 1 else 0)) else 1) : Int32))
theorem z_CO_isKnownWithImmediate (xa : Int32) (xb : Int32) : (f_CO_isKnownWithImmediate xa xb) = 0 ∨ (f_CO_isKnownWithImmediate xa xb) = 1 := by
  unfold f_CO_isKnownWithImmediate
  repeat' first | exact Or.inl rfl | exact Or.inr rfl | apply z_ite | split
set_option maxHeartbeats 4000000 in
set_option maxRecDepth 100000 in
theorem c_CO_isKnownWithImmediate (xa : Int32) (xb : Int32) (σ : St) : CI l D (tyL cA) rh (rcW rh cA) NW yX1_isKnownWithImmediate cX1_isKnownWithImmediate 2 .boolean 0 [.int xa, .int xb] σ (f_CO_isKnownWithImmediate xa xb) σ := by
  refine CI.of rfl (Nat.le_of_ble_eq_true rfl) (zN (z_CO_isKnownWithImmediate ..)) ?_
  intro p9 e s m args below meth c A Q X hend
  refine v_lv (lv' := [(0, .int xa), (1, .int xb)]) [0, 1] rfl ?_
  refine v_iload_n X 0 dX1_isKnownWithImmediate_0 rfl rfl ?_
  refine v_iconst (v := 1) X dX1_isKnownWithImmediate_1 (by decide) ?_
  refine v_icmp_ne X 15 dX1_isKnownWithImmediate_2 (by decide) (fun h2 => ?_) (fun h2 => ?_)
  ·
    refine v_iload_n X 0 dX1_isKnownWithImmediate_15 rfl rfl ?_
    refine v_iconst (v := 5) X dX1_isKnownWithImmediate_16 (by decide) ?_
    refine v_suff (pc2 := 35) (lv2 := [(0, .int xa), (1, .int xb)]) (st2 := [.int ((if xa = 5 then (if xb = 0 then 1 else (if xb = 32 then 1 else 0)) else 1) : Int32)]) (σ2 := σ) ?_ (fun J17 => ?_)
    rotate_left
    ·
      refine v_icmp_ne X 30 dX1_isKnownWithImmediate_17 (by decide) (fun h17 => ?_) (fun h17 => ?_)
      ·
        refine v_iconst (v := 1) X dX1_isKnownWithImmediate_30 (by decide) ?_
        refine v_goto (tgt := 35) X dX1_isKnownWithImmediate_31 (by decide) ?_
        have e9 : (((if xa = 5 then (if xb = 0 then 1 else (if xb = 32 then 1 else 0)) else 1) : Int32) : Int32) = 1 := by simp only [if_neg h17]
        rw [e9] at J17
        exact J17
      ·
        refine v_iload_n X 1 dX1_isKnownWithImmediate_20 rfl rfl ?_
        refine v_if_eq X 30 dX1_isKnownWithImmediate_21 (by decide) (fun h21 => ?_) (fun h21 => ?_)
        ·
          refine v_iconst (v := 1) X dX1_isKnownWithImmediate_30 (by decide) ?_
          refine v_goto (tgt := 35) X dX1_isKnownWithImmediate_31 (by decide) ?_
          have e9 : (((if xa = 5 then (if xb = 0 then 1 else (if xb = 32 then 1 else 0)) else 1) : Int32) : Int32) = 1 := by simp only [if_pos h17, if_pos h21]
          rw [e9] at J17
          exact J17
        ·
          refine v_iload_n X 1 dX1_isKnownWithImmediate_24 rfl rfl ?_
          refine v_bipush (v := 32) X dX1_isKnownWithImmediate_25 (by decide) ?_
          refine v_icmp_ne X 34 dX1_isKnownWithImmediate_27 (by decide) (fun h27 => ?_) (fun h27 => ?_)
          ·
            refine v_iconst (v := 0) X dX1_isKnownWithImmediate_34 (by decide) ?_
            have e9 : (((if xa = 5 then (if xb = 0 then 1 else (if xb = 32 then 1 else 0)) else 1) : Int32) : Int32) = 0 := by simp only [if_pos h17, if_neg h21, if_neg h27]
            rw [e9] at J17
            exact J17
          ·
            refine v_iconst (v := 1) X dX1_isKnownWithImmediate_30 (by decide) ?_
            refine v_goto (tgt := 35) X dX1_isKnownWithImmediate_31 (by decide) ?_
            have e9 : (((if xa = 5 then (if xb = 0 then 1 else (if xb = 32 then 1 else 0)) else 1) : Int32) : Int32) = 1 := by simp only [if_pos h17, if_neg h21, if_pos h27]
            rw [e9] at J17
            exact J17
    have e9 : f_CO_isKnownWithImmediate xa xb = ((if xa = 5 then (if xb = 0 then 1 else (if xb = 32 then 1 else 0)) else 1) : Int32) := by simp only [f_CO_isKnownWithImmediate, if_neg h2]
    exact v_endI hend dX1_isKnownWithImmediate_35 e9 rfl
  ·
    refine v_iload_n X 1 dX1_isKnownWithImmediate_5 rfl rfl ?_
    refine v_suff (pc2 := 14) (lv2 := [(0, .int xa), (1, .int xb)]) (st2 := [.int ((if xb = 0 then 1 else 0) : Int32)]) (σ2 := σ) ?_ (fun J6 => ?_)
    rotate_left
    ·
      refine v_if_ne X 13 dX1_isKnownWithImmediate_6 (by decide) (fun h6 => ?_) (fun h6 => ?_)
      ·
        refine v_iconst (v := 0) X dX1_isKnownWithImmediate_13 (by decide) ?_
        have e9 : (((if xb = 0 then 1 else 0) : Int32) : Int32) = 0 := by simp only [if_neg h6]
        rw [e9] at J6
        exact J6
      ·
        refine v_iconst (v := 1) X dX1_isKnownWithImmediate_9 (by decide) ?_
        refine v_goto (tgt := 14) X dX1_isKnownWithImmediate_10 (by decide) ?_
        have e9 : (((if xb = 0 then 1 else 0) : Int32) : Int32) = 1 := by simp only [if_pos h6]
        rw [e9] at J6
        exact J6
    have e9 : f_CO_isKnownWithImmediate xa xb = ((if xb = 0 then 1 else 0) : Int32) := by simp only [f_CO_isKnownWithImmediate, if_pos h2]
    exact v_endI hend dX1_isKnownWithImmediate_14 e9 rfl
def f_CO_isKnownWithRegister (xa : Int32) (xb : Int32) : Int32 :=
  ((if xb = 0 then 1 else (if xb = 32 then (if xa = 0 then 1 else (if xa = 5 then 1 else 0)) else 0)) : Int32)
theorem z_CO_isKnownWithRegister (xa : Int32) (xb : Int32) : (f_CO_isKnownWithRegister xa xb) = 0 ∨ (f_CO_isKnownWithRegister xa xb) = 1 := by
  unfold f_CO_isKnownWithRegister
  repeat' first | exact Or.inl rfl | exact Or.inr rfl | apply z_ite | split
set_option maxHeartbeats 4000000 in
set_option maxRecDepth 100000 in
theorem c_CO_isKnownWithRegister (xa : Int32) (xb : Int32) (σ : St) : CI l D (tyL cA) rh (rcW rh cA) NW yX1_isKnownWithRegister cX1_isKnownWithRegister 2 .boolean 0 [.int xa, .int xb] σ (f_CO_isKnownWithRegister xa xb) σ := by
  refine CI.of rfl (Nat.le_of_ble_eq_true rfl) (zN (z_CO_isKnownWithRegister ..)) ?_
  intro p9 e s m args below meth c A Q X hend
  refine v_lv (lv' := [(0, .int xa), (1, .int xb)]) [0, 1] rfl ?_
  refine v_iload_n X 1 dX1_isKnownWithRegister_0 rfl rfl ?_
  refine v_suff (pc2 := 24) (lv2 := [(0, .int xa), (1, .int xb)]) (st2 := [.int ((if xb = 0 then 1 else (if xb = 32 then (if xa = 0 then 1 else (if xa = 5 then 1 else 0)) else 0)) : Int32)]) (σ2 := σ) ?_ (fun J1 => ?_)
  rotate_left
  ·
    refine v_if_eq X 19 dX1_isKnownWithRegister_1 (by decide) (fun h1 => ?_) (fun h1 => ?_)
    ·
      refine v_iconst (v := 1) X dX1_isKnownWithRegister_19 (by decide) ?_
      refine v_goto (tgt := 24) X dX1_isKnownWithRegister_20 (by decide) ?_
      have e9 : (((if xb = 0 then 1 else (if xb = 32 then (if xa = 0 then 1 else (if xa = 5 then 1 else 0)) else 0)) : Int32) : Int32) = 1 := by simp only [if_pos h1]
      rw [e9] at J1
      exact J1
    ·
      refine v_iload_n X 1 dX1_isKnownWithRegister_4 rfl rfl ?_
      refine v_bipush (v := 32) X dX1_isKnownWithRegister_5 (by decide) ?_
      refine v_icmp_ne X 23 dX1_isKnownWithRegister_7 (by decide) (fun h7 => ?_) (fun h7 => ?_)
      ·
        refine v_iconst (v := 0) X dX1_isKnownWithRegister_23 (by decide) ?_
        have e9 : (((if xb = 0 then 1 else (if xb = 32 then (if xa = 0 then 1 else (if xa = 5 then 1 else 0)) else 0)) : Int32) : Int32) = 0 := by simp only [if_neg h1, if_neg h7]
        rw [e9] at J1
        exact J1
      ·
        refine v_iload_n X 0 dX1_isKnownWithRegister_10 rfl rfl ?_
        refine v_if_eq X 19 dX1_isKnownWithRegister_11 (by decide) (fun h11 => ?_) (fun h11 => ?_)
        ·
          refine v_iconst (v := 1) X dX1_isKnownWithRegister_19 (by decide) ?_
          refine v_goto (tgt := 24) X dX1_isKnownWithRegister_20 (by decide) ?_
          have e9 : (((if xb = 0 then 1 else (if xb = 32 then (if xa = 0 then 1 else (if xa = 5 then 1 else 0)) else 0)) : Int32) : Int32) = 1 := by simp only [if_neg h1, if_pos h7, if_pos h11]
          rw [e9] at J1
          exact J1
        ·
          refine v_iload_n X 0 dX1_isKnownWithRegister_14 rfl rfl ?_
          refine v_iconst (v := 5) X dX1_isKnownWithRegister_15 (by decide) ?_
          refine v_icmp_ne X 23 dX1_isKnownWithRegister_16 (by decide) (fun h16 => ?_) (fun h16 => ?_)
          ·
            refine v_iconst (v := 0) X dX1_isKnownWithRegister_23 (by decide) ?_
            have e9 : (((if xb = 0 then 1 else (if xb = 32 then (if xa = 0 then 1 else (if xa = 5 then 1 else 0)) else 0)) : Int32) : Int32) = 0 := by simp only [if_neg h1, if_pos h7, if_neg h11, if_neg h16]
            rw [e9] at J1
            exact J1
          ·
            refine v_iconst (v := 1) X dX1_isKnownWithRegister_19 (by decide) ?_
            refine v_goto (tgt := 24) X dX1_isKnownWithRegister_20 (by decide) ?_
            have e9 : (((if xb = 0 then 1 else (if xb = 32 then (if xa = 0 then 1 else (if xa = 5 then 1 else 0)) else 0)) : Int32) : Int32) = 1 := by simp only [if_neg h1, if_pos h7, if_neg h11, if_pos h16]
            rw [e9] at J1
            exact J1
  have e9 : f_CO_isKnownWithRegister xa xb = ((if xb = 0 then 1 else (if xb = 32 then (if xa = 0 then 1 else (if xa = 5 then 1 else 0)) else 0)) : Int32) := by simp only [f_CO_isKnownWithRegister]
  exact v_endI hend dX1_isKnownWithRegister_24 e9 rfl
def f_CO_isKnown (xa : Int32) : Int32 :=
  (if (f_CO_o xa) = 3 then ((if (f_CO_f xa) = 2 then (if ((if 16 ≤ (f_CO_rd xa) then 0 else 1) : Int32) = 0 then 0 else (if ((if 16 ≤ (f_CO_rs1 xa) then 0 else 1) : Int32) = 0 then 0 else 1)) else 0) : Int32) else (if (f_CO_o xa) = 19 then ((if ((if 16 ≤ (f_CO_rd xa) then 0 else 1) : Int32) = 0 then 0 else (if ((if 16 ≤ (f_CO_rs1 xa) then 0 else 1) : Int32) = 0 then 0 else (if (f_CO_isKnownWithImmediate (f_CO_f xa) (f_CO_g xa)) = 0 then 0 else 1))) : Int32) else (if (f_CO_o xa) = 23 then ((if 16 ≤ (f_CO_rd xa) then 0 else 1) : Int32) else (if (f_CO_o xa) = 35 then ((if (f_CO_f xa) = 2 then (if ((if 16 ≤ (f_CO_rs1 xa) then 0 else 1) : Int32) = 0 then 0 else (if ((if 16 ≤ (f_CO_rs2 xa) then 0 else 1) : Int32) = 0 then 0 else 1)) else 0) : Int32) else (if (f_CO_o xa) = 51 then ((if ((if 16 ≤ (f_CO_rd xa) then 0 else 1) : Int32) = 0 then 0 else (if ((if 16 ≤ (f_CO_rs1 xa) then 0 else 1) : Int32) = 0 then 0 else (if ((if 16 ≤ (f_CO_rs2 xa) then 0 else 1) : Int32) = 0 then 0 else (if (f_CO_isKnownWithRegister (f_CO_f xa) (f_CO_g xa)) = 0 then 0 else 1)))) : Int32) else (if (f_CO_o xa) = 55 then ((if 16 ≤ (f_CO_rd xa) then 0 else 1) : Int32) else (if (f_CO_o xa) = 99 then ((if (f_CO_f xa) = 2 then 0 else (if (f_CO_f xa) = 3 then 0 else (if ((if 16 ≤ (f_CO_rs1 xa) then 0 else 1) : Int32) = 0 then 0 else (if ((if 16 ≤ (f_CO_rs2 xa) then 0 else 1) : Int32) = 0 then 0 else 1)))) : Int32) else (if (f_CO_o xa) = 103 then ((if (f_CO_f xa) = 0 then (if ((if 16 ≤ (f_CO_rd xa) then 0 else 1) : Int32) = 0 then 0 else (if ((if 16 ≤ (f_CO_rs1 xa) then 0 else 1) : Int32) = 0 then 0 else 1)) else 0) : Int32) else (if (f_CO_o xa) = 111 then ((if 16 ≤ (f_CO_rd xa) then 0 else 1) : Int32) else (if (f_CO_o xa) = 115 then ((if xa = 115 then 1 else (if xa = 1048691 then 1 else 0)) : Int32) else 0))))))))))
theorem z_CO_isKnown (xa : Int32) : (f_CO_isKnown xa) = 0 ∨ (f_CO_isKnown xa) = 1 := by
  unfold f_CO_isKnown
  repeat' first | exact Or.inl rfl | exact Or.inr rfl | exact z_CO_isKnownWithImmediate .. | exact z_CO_isKnownWithRegister .. | apply z_ite | split
set_option maxHeartbeats 4000000 in
set_option maxRecDepth 100000 in
theorem c_CO_isKnown (xa : Int32) (σ : St) : CI l D (tyL cA) rh (rcW rh cA) NW yX1_isKnown cX1_isKnown 4 .boolean 1 [.int xa] σ (f_CO_isKnown xa) σ := by
  refine CI.of rfl (Nat.le_of_ble_eq_true rfl) (zN (z_CO_isKnown ..)) ?_
  intro p9 e s m args below meth c A Q X hend
  refine v_lv (lv' := [(0, .int xa)]) [0] rfl ?_
  refine v_iload_n X 0 dX1_isKnown_0 rfl rfl ?_
  refine v_callS_CI (rest := []) X [.int xa] (c_CO_rd xa σ ) mf_CO_rd ws_CO_rd wm_CO_9 rfl ⟨by decide, by decide⟩ (Nat.le_of_ble_eq_true rfl) ⟨by decide, by decide⟩ dX1_isKnown_1 ?_
  refine v_bipush (v := 16) X dX1_isKnown_4 (by decide) ?_
  refine v_suff (pc2 := 14) (lv2 := [(0, .int xa)]) (st2 := [.int ((if 16 ≤ (f_CO_rd xa) then 0 else 1) : Int32)]) (σ2 := σ) ?_ (fun J6 => ?_)
  rotate_left
  ·
    refine v_icmp_ge X 13 dX1_isKnown_6 (by decide) (fun h6 => ?_) (fun h6 => ?_)
    ·
      refine v_iconst (v := 0) X dX1_isKnown_13 (by decide) ?_
      have e9 : (((if 16 ≤ (f_CO_rd xa) then 0 else 1) : Int32) : Int32) = 0 := by simp only [if_pos h6]
      rw [e9] at J6
      exact J6
    ·
      refine v_iconst (v := 1) X dX1_isKnown_9 (by decide) ?_
      refine v_goto (tgt := 14) X dX1_isKnown_10 (by decide) ?_
      have e9 : (((if 16 ≤ (f_CO_rd xa) then 0 else 1) : Int32) : Int32) = 1 := by simp only [if_neg h6]
      rw [e9] at J6
      exact J6
  refine v_istore_n (lv' := [(1, .int ((if 16 ≤ (f_CO_rd xa) then 0 else 1) : Int32)), (0, .int xa)]) X dX1_isKnown_14 rfl (by decide) rfl ?_
  refine v_iload_n X 1 dX1_isKnown_15 rfl rfl ?_
  refine v_callS_CI (rest := []) X [.int xa] (c_CO_rs1 xa σ ) mf_CO_rs1 ws_CO_rs1 wm_CO_15 rfl ⟨by decide, by decide⟩ (Nat.le_of_ble_eq_true rfl) ⟨by decide, by decide⟩ dX1_isKnown_16 ?_
  refine v_bipush (v := 16) X dX1_isKnown_19 (by decide) ?_
  refine v_suff (pc2 := 29) (lv2 := [(1, .int ((if 16 ≤ (f_CO_rd xa) then 0 else 1) : Int32)), (0, .int xa)]) (st2 := [.int ((if 16 ≤ (f_CO_rs1 xa) then 0 else 1) : Int32)]) (σ2 := σ) ?_ (fun J21 => ?_)
  rotate_left
  ·
    refine v_icmp_ge X 28 dX1_isKnown_21 (by decide) (fun h21 => ?_) (fun h21 => ?_)
    ·
      refine v_iconst (v := 0) X dX1_isKnown_28 (by decide) ?_
      have e9 : (((if 16 ≤ (f_CO_rs1 xa) then 0 else 1) : Int32) : Int32) = 0 := by simp only [if_pos h21]
      rw [e9] at J21
      exact J21
    ·
      refine v_iconst (v := 1) X dX1_isKnown_24 (by decide) ?_
      refine v_goto (tgt := 29) X dX1_isKnown_25 (by decide) ?_
      have e9 : (((if 16 ≤ (f_CO_rs1 xa) then 0 else 1) : Int32) : Int32) = 1 := by simp only [if_neg h21]
      rw [e9] at J21
      exact J21
  refine v_istore_n (lv' := [(2, .int ((if 16 ≤ (f_CO_rs1 xa) then 0 else 1) : Int32)), (1, .int ((if 16 ≤ (f_CO_rd xa) then 0 else 1) : Int32)), (0, .int xa)]) X dX1_isKnown_29 rfl (by decide) rfl ?_
  refine v_iload_n X 2 dX1_isKnown_30 rfl rfl ?_
  refine v_callS_CI (rest := []) X [.int xa] (c_CO_rs2 xa σ ) mf_CO_rs2 ws_CO_rs2 wm_CO_18 rfl ⟨by decide, by decide⟩ (Nat.le_of_ble_eq_true rfl) ⟨by decide, by decide⟩ dX1_isKnown_31 ?_
  refine v_bipush (v := 16) X dX1_isKnown_34 (by decide) ?_
  refine v_suff (pc2 := 44) (lv2 := [(2, .int ((if 16 ≤ (f_CO_rs1 xa) then 0 else 1) : Int32)), (1, .int ((if 16 ≤ (f_CO_rd xa) then 0 else 1) : Int32)), (0, .int xa)]) (st2 := [.int ((if 16 ≤ (f_CO_rs2 xa) then 0 else 1) : Int32)]) (σ2 := σ) ?_ (fun J36 => ?_)
  rotate_left
  ·
    refine v_icmp_ge X 43 dX1_isKnown_36 (by decide) (fun h36 => ?_) (fun h36 => ?_)
    ·
      refine v_iconst (v := 0) X dX1_isKnown_43 (by decide) ?_
      have e9 : (((if 16 ≤ (f_CO_rs2 xa) then 0 else 1) : Int32) : Int32) = 0 := by simp only [if_pos h36]
      rw [e9] at J36
      exact J36
    ·
      refine v_iconst (v := 1) X dX1_isKnown_39 (by decide) ?_
      refine v_goto (tgt := 44) X dX1_isKnown_40 (by decide) ?_
      have e9 : (((if 16 ≤ (f_CO_rs2 xa) then 0 else 1) : Int32) : Int32) = 1 := by simp only [if_neg h36]
      rw [e9] at J36
      exact J36
  refine v_istore_n (lv' := [(3, .int ((if 16 ≤ (f_CO_rs2 xa) then 0 else 1) : Int32)), (2, .int ((if 16 ≤ (f_CO_rs1 xa) then 0 else 1) : Int32)), (1, .int ((if 16 ≤ (f_CO_rd xa) then 0 else 1) : Int32)), (0, .int xa)]) X dX1_isKnown_44 rfl (by decide) rfl ?_
  refine v_iload_n X 3 dX1_isKnown_45 rfl rfl ?_
  refine v_callS_CI (rest := []) X [.int xa] (c_CO_o xa σ ) mf_CO_o ws_CO_o wm_CO_21 rfl ⟨by decide, by decide⟩ (Nat.le_of_ble_eq_true rfl) ⟨by decide, by decide⟩ dX1_isKnown_46 ?_
  by_cases h49_0 : (f_CO_o xa) = 3
  ·
    refine v_lsw (off := 144) X 193 dX1_isKnown_49 (by decide) (by rw [h49_0] <;> rfl) (by decide) ?_
    refine v_iload_n X 3 dX1_isKnown_193 rfl rfl ?_
    refine v_callS_CI (rest := []) X [.int xa] (c_CO_f xa σ ) mf_CO_f ws_CO_f wm_CO_24 rfl ⟨by decide, by decide⟩ (Nat.le_of_ble_eq_true rfl) ⟨by decide, by decide⟩ dX1_isKnown_194 ?_
    refine v_iconst (v := 2) X dX1_isKnown_197 (by decide) ?_
    refine v_suff (pc2 := 214) (lv2 := [(3, .int ((if 16 ≤ (f_CO_rs2 xa) then 0 else 1) : Int32)), (2, .int ((if 16 ≤ (f_CO_rs1 xa) then 0 else 1) : Int32)), (1, .int ((if 16 ≤ (f_CO_rd xa) then 0 else 1) : Int32)), (0, .int xa)]) (st2 := [.int ((if (f_CO_f xa) = 2 then (if ((if 16 ≤ (f_CO_rd xa) then 0 else 1) : Int32) = 0 then 0 else (if ((if 16 ≤ (f_CO_rs1 xa) then 0 else 1) : Int32) = 0 then 0 else 1)) else 0) : Int32)]) (σ2 := σ) ?_ (fun J198 => ?_)
    rotate_left
    ·
      refine v_icmp_ne X 213 dX1_isKnown_198 (by decide) (fun h198 => ?_) (fun h198 => ?_)
      ·
        refine v_iconst (v := 0) X dX1_isKnown_213 (by decide) ?_
        have e9 : (((if (f_CO_f xa) = 2 then (if ((if 16 ≤ (f_CO_rd xa) then 0 else 1) : Int32) = 0 then 0 else (if ((if 16 ≤ (f_CO_rs1 xa) then 0 else 1) : Int32) = 0 then 0 else 1)) else 0) : Int32) : Int32) = 0 := by simp only [if_neg h198]
        rw [e9] at J198
        exact J198
      ·
        refine v_iload_n X 2 dX1_isKnown_201 rfl rfl ?_
        refine v_if_eq X 213 dX1_isKnown_202 (by decide) (fun h202 => ?_) (fun h202 => ?_)
        ·
          refine v_iconst (v := 0) X dX1_isKnown_213 (by decide) ?_
          have e9 : (((if (f_CO_f xa) = 2 then (if ((if 16 ≤ (f_CO_rd xa) then 0 else 1) : Int32) = 0 then 0 else (if ((if 16 ≤ (f_CO_rs1 xa) then 0 else 1) : Int32) = 0 then 0 else 1)) else 0) : Int32) : Int32) = 0 := by simp only [if_pos h198, if_pos h202]
          rw [e9] at J198
          exact J198
        ·
          refine v_iload_n X 1 dX1_isKnown_205 rfl rfl ?_
          refine v_if_eq X 213 dX1_isKnown_206 (by decide) (fun h206 => ?_) (fun h206 => ?_)
          ·
            refine v_iconst (v := 0) X dX1_isKnown_213 (by decide) ?_
            have e9 : (((if (f_CO_f xa) = 2 then (if ((if 16 ≤ (f_CO_rd xa) then 0 else 1) : Int32) = 0 then 0 else (if ((if 16 ≤ (f_CO_rs1 xa) then 0 else 1) : Int32) = 0 then 0 else 1)) else 0) : Int32) : Int32) = 0 := by simp only [if_pos h198, if_neg h202, if_pos h206]
            rw [e9] at J198
            exact J198
          ·
            refine v_iconst (v := 1) X dX1_isKnown_209 (by decide) ?_
            refine v_goto (tgt := 214) X dX1_isKnown_210 (by decide) ?_
            have e9 : (((if (f_CO_f xa) = 2 then (if ((if 16 ≤ (f_CO_rd xa) then 0 else 1) : Int32) = 0 then 0 else (if ((if 16 ≤ (f_CO_rs1 xa) then 0 else 1) : Int32) = 0 then 0 else 1)) else 0) : Int32) : Int32) = 1 := by simp only [if_pos h198, if_neg h202, if_neg h206]
            rw [e9] at J198
            exact J198
    have e9 : f_CO_isKnown xa = ((if (f_CO_f xa) = 2 then (if ((if 16 ≤ (f_CO_rd xa) then 0 else 1) : Int32) = 0 then 0 else (if ((if 16 ≤ (f_CO_rs1 xa) then 0 else 1) : Int32) = 0 then 0 else 1)) else 0) : Int32) := by simp only [f_CO_isKnown, if_pos h49_0]
    exact v_endI hend dX1_isKnown_214 e9 rfl
  by_cases h49_1 : (f_CO_o xa) = 19
  ·
    refine v_lsw (off := 188) X 237 dX1_isKnown_49 (by decide) (by rw [h49_1] <;> rfl) (by decide) ?_
    refine v_iload_n X 2 dX1_isKnown_237 rfl rfl ?_
    refine v_suff (pc2 := 264) (lv2 := [(3, .int ((if 16 ≤ (f_CO_rs2 xa) then 0 else 1) : Int32)), (2, .int ((if 16 ≤ (f_CO_rs1 xa) then 0 else 1) : Int32)), (1, .int ((if 16 ≤ (f_CO_rd xa) then 0 else 1) : Int32)), (0, .int xa)]) (st2 := [.int ((if ((if 16 ≤ (f_CO_rd xa) then 0 else 1) : Int32) = 0 then 0 else (if ((if 16 ≤ (f_CO_rs1 xa) then 0 else 1) : Int32) = 0 then 0 else (if (f_CO_isKnownWithImmediate (f_CO_f xa) (f_CO_g xa)) = 0 then 0 else 1))) : Int32)]) (σ2 := σ) ?_ (fun J238 => ?_)
    rotate_left
    ·
      refine v_if_eq X 263 dX1_isKnown_238 (by decide) (fun h238 => ?_) (fun h238 => ?_)
      ·
        refine v_iconst (v := 0) X dX1_isKnown_263 (by decide) ?_
        have e9 : (((if ((if 16 ≤ (f_CO_rd xa) then 0 else 1) : Int32) = 0 then 0 else (if ((if 16 ≤ (f_CO_rs1 xa) then 0 else 1) : Int32) = 0 then 0 else (if (f_CO_isKnownWithImmediate (f_CO_f xa) (f_CO_g xa)) = 0 then 0 else 1))) : Int32) : Int32) = 0 := by simp only [if_pos h238]
        rw [e9] at J238
        exact J238
      ·
        refine v_iload_n X 1 dX1_isKnown_241 rfl rfl ?_
        refine v_if_eq X 263 dX1_isKnown_242 (by decide) (fun h242 => ?_) (fun h242 => ?_)
        ·
          refine v_iconst (v := 0) X dX1_isKnown_263 (by decide) ?_
          have e9 : (((if ((if 16 ≤ (f_CO_rd xa) then 0 else 1) : Int32) = 0 then 0 else (if ((if 16 ≤ (f_CO_rs1 xa) then 0 else 1) : Int32) = 0 then 0 else (if (f_CO_isKnownWithImmediate (f_CO_f xa) (f_CO_g xa)) = 0 then 0 else 1))) : Int32) : Int32) = 0 := by simp only [if_neg h238, if_pos h242]
          rw [e9] at J238
          exact J238
        ·
          refine v_iload_n X 3 dX1_isKnown_245 rfl rfl ?_
          refine v_callS_CI (rest := []) X [.int xa] (c_CO_f xa σ ) mf_CO_f ws_CO_f wm_CO_24 rfl ⟨by decide, by decide⟩ (Nat.le_of_ble_eq_true rfl) ⟨by decide, by decide⟩ dX1_isKnown_246 ?_
          refine v_iload_n X 3 dX1_isKnown_249 rfl rfl ?_
          refine v_callS_CI (rest := [.int (f_CO_f xa)]) X [.int xa] (c_CO_g xa σ ) mf_CO_g ws_CO_g wm_CO_27 rfl ⟨by decide, by decide⟩ (Nat.le_of_ble_eq_true rfl) ⟨by decide, by decide⟩ dX1_isKnown_250 ?_
          refine v_callS_CI (rest := []) X [.int (f_CO_f xa), .int (f_CO_g xa)] (c_CO_isKnownWithImmediate (f_CO_f xa) (f_CO_g xa) σ ) mf_CO_isKnownWithImmediate ws_CO_isKnownWithImmediate wm_CO_30 rfl ⟨by decide, by decide⟩ (Nat.le_of_ble_eq_true rfl) ⟨by decide, by decide⟩ dX1_isKnown_253 ?_
          refine v_if_eq X 263 dX1_isKnown_256 (by decide) (fun h256 => ?_) (fun h256 => ?_)
          ·
            refine v_iconst (v := 0) X dX1_isKnown_263 (by decide) ?_
            have e9 : (((if ((if 16 ≤ (f_CO_rd xa) then 0 else 1) : Int32) = 0 then 0 else (if ((if 16 ≤ (f_CO_rs1 xa) then 0 else 1) : Int32) = 0 then 0 else (if (f_CO_isKnownWithImmediate (f_CO_f xa) (f_CO_g xa)) = 0 then 0 else 1))) : Int32) : Int32) = 0 := by simp only [if_neg h238, if_neg h242, if_pos h256]
            rw [e9] at J238
            exact J238
          ·
            refine v_iconst (v := 1) X dX1_isKnown_259 (by decide) ?_
            refine v_goto (tgt := 264) X dX1_isKnown_260 (by decide) ?_
            have e9 : (((if ((if 16 ≤ (f_CO_rd xa) then 0 else 1) : Int32) = 0 then 0 else (if ((if 16 ≤ (f_CO_rs1 xa) then 0 else 1) : Int32) = 0 then 0 else (if (f_CO_isKnownWithImmediate (f_CO_f xa) (f_CO_g xa)) = 0 then 0 else 1))) : Int32) : Int32) = 1 := by simp only [if_neg h238, if_neg h242, if_neg h256]
            rw [e9] at J238
            exact J238
    have e9 : f_CO_isKnown xa = ((if ((if 16 ≤ (f_CO_rd xa) then 0 else 1) : Int32) = 0 then 0 else (if ((if 16 ≤ (f_CO_rs1 xa) then 0 else 1) : Int32) = 0 then 0 else (if (f_CO_isKnownWithImmediate (f_CO_f xa) (f_CO_g xa)) = 0 then 0 else 1))) : Int32) := by simp only [f_CO_isKnown, if_neg h49_0, if_pos h49_1]
    exact v_endI hend dX1_isKnown_264 e9 rfl
  by_cases h49_2 : (f_CO_o xa) = 23
  ·
    refine v_lsw (off := 91) X 140 dX1_isKnown_49 (by decide) (by rw [h49_2] <;> rfl) (by decide) ?_
    refine v_iload_n X 2 dX1_isKnown_140 rfl rfl ?_
    have e9 : f_CO_isKnown xa = ((if 16 ≤ (f_CO_rd xa) then 0 else 1) : Int32) := by simp only [f_CO_isKnown, if_neg h49_0, if_neg h49_1, if_pos h49_2]
    exact v_endI hend dX1_isKnown_141 e9 rfl
  by_cases h49_3 : (f_CO_o xa) = 35
  ·
    refine v_lsw (off := 166) X 215 dX1_isKnown_49 (by decide) (by rw [h49_3] <;> rfl) (by decide) ?_
    refine v_iload_n X 3 dX1_isKnown_215 rfl rfl ?_
    refine v_callS_CI (rest := []) X [.int xa] (c_CO_f xa σ ) mf_CO_f ws_CO_f wm_CO_24 rfl ⟨by decide, by decide⟩ (Nat.le_of_ble_eq_true rfl) ⟨by decide, by decide⟩ dX1_isKnown_216 ?_
    refine v_iconst (v := 2) X dX1_isKnown_219 (by decide) ?_
    refine v_suff (pc2 := 236) (lv2 := [(3, .int ((if 16 ≤ (f_CO_rs2 xa) then 0 else 1) : Int32)), (2, .int ((if 16 ≤ (f_CO_rs1 xa) then 0 else 1) : Int32)), (1, .int ((if 16 ≤ (f_CO_rd xa) then 0 else 1) : Int32)), (0, .int xa)]) (st2 := [.int ((if (f_CO_f xa) = 2 then (if ((if 16 ≤ (f_CO_rs1 xa) then 0 else 1) : Int32) = 0 then 0 else (if ((if 16 ≤ (f_CO_rs2 xa) then 0 else 1) : Int32) = 0 then 0 else 1)) else 0) : Int32)]) (σ2 := σ) ?_ (fun J220 => ?_)
    rotate_left
    ·
      refine v_icmp_ne X 235 dX1_isKnown_220 (by decide) (fun h220 => ?_) (fun h220 => ?_)
      ·
        refine v_iconst (v := 0) X dX1_isKnown_235 (by decide) ?_
        have e9 : (((if (f_CO_f xa) = 2 then (if ((if 16 ≤ (f_CO_rs1 xa) then 0 else 1) : Int32) = 0 then 0 else (if ((if 16 ≤ (f_CO_rs2 xa) then 0 else 1) : Int32) = 0 then 0 else 1)) else 0) : Int32) : Int32) = 0 := by simp only [if_neg h220]
        rw [e9] at J220
        exact J220
      ·
        refine v_iload_n X 1 dX1_isKnown_223 rfl rfl ?_
        refine v_if_eq X 235 dX1_isKnown_224 (by decide) (fun h224 => ?_) (fun h224 => ?_)
        ·
          refine v_iconst (v := 0) X dX1_isKnown_235 (by decide) ?_
          have e9 : (((if (f_CO_f xa) = 2 then (if ((if 16 ≤ (f_CO_rs1 xa) then 0 else 1) : Int32) = 0 then 0 else (if ((if 16 ≤ (f_CO_rs2 xa) then 0 else 1) : Int32) = 0 then 0 else 1)) else 0) : Int32) : Int32) = 0 := by simp only [if_pos h220, if_pos h224]
          rw [e9] at J220
          exact J220
        ·
          refine v_iload_n X 0 dX1_isKnown_227 rfl rfl ?_
          refine v_if_eq X 235 dX1_isKnown_228 (by decide) (fun h228 => ?_) (fun h228 => ?_)
          ·
            refine v_iconst (v := 0) X dX1_isKnown_235 (by decide) ?_
            have e9 : (((if (f_CO_f xa) = 2 then (if ((if 16 ≤ (f_CO_rs1 xa) then 0 else 1) : Int32) = 0 then 0 else (if ((if 16 ≤ (f_CO_rs2 xa) then 0 else 1) : Int32) = 0 then 0 else 1)) else 0) : Int32) : Int32) = 0 := by simp only [if_pos h220, if_neg h224, if_pos h228]
            rw [e9] at J220
            exact J220
          ·
            refine v_iconst (v := 1) X dX1_isKnown_231 (by decide) ?_
            refine v_goto (tgt := 236) X dX1_isKnown_232 (by decide) ?_
            have e9 : (((if (f_CO_f xa) = 2 then (if ((if 16 ≤ (f_CO_rs1 xa) then 0 else 1) : Int32) = 0 then 0 else (if ((if 16 ≤ (f_CO_rs2 xa) then 0 else 1) : Int32) = 0 then 0 else 1)) else 0) : Int32) : Int32) = 1 := by simp only [if_pos h220, if_neg h224, if_neg h228]
            rw [e9] at J220
            exact J220
    have e9 : f_CO_isKnown xa = ((if (f_CO_f xa) = 2 then (if ((if 16 ≤ (f_CO_rs1 xa) then 0 else 1) : Int32) = 0 then 0 else (if ((if 16 ≤ (f_CO_rs2 xa) then 0 else 1) : Int32) = 0 then 0 else 1)) else 0) : Int32) := by simp only [f_CO_isKnown, if_neg h49_0, if_neg h49_1, if_neg h49_2, if_pos h49_3]
    exact v_endI hend dX1_isKnown_236 e9 rfl
  by_cases h49_4 : (f_CO_o xa) = 51
  ·
    refine v_lsw (off := 216) X 265 dX1_isKnown_49 (by decide) (by rw [h49_4] <;> rfl) (by decide) ?_
    refine v_iload_n X 2 dX1_isKnown_265 rfl rfl ?_
    refine v_suff (pc2 := 296) (lv2 := [(3, .int ((if 16 ≤ (f_CO_rs2 xa) then 0 else 1) : Int32)), (2, .int ((if 16 ≤ (f_CO_rs1 xa) then 0 else 1) : Int32)), (1, .int ((if 16 ≤ (f_CO_rd xa) then 0 else 1) : Int32)), (0, .int xa)]) (st2 := [.int ((if ((if 16 ≤ (f_CO_rd xa) then 0 else 1) : Int32) = 0 then 0 else (if ((if 16 ≤ (f_CO_rs1 xa) then 0 else 1) : Int32) = 0 then 0 else (if ((if 16 ≤ (f_CO_rs2 xa) then 0 else 1) : Int32) = 0 then 0 else (if (f_CO_isKnownWithRegister (f_CO_f xa) (f_CO_g xa)) = 0 then 0 else 1)))) : Int32)]) (σ2 := σ) ?_ (fun J266 => ?_)
    rotate_left
    ·
      refine v_if_eq X 295 dX1_isKnown_266 (by decide) (fun h266 => ?_) (fun h266 => ?_)
      ·
        refine v_iconst (v := 0) X dX1_isKnown_295 (by decide) ?_
        have e9 : (((if ((if 16 ≤ (f_CO_rd xa) then 0 else 1) : Int32) = 0 then 0 else (if ((if 16 ≤ (f_CO_rs1 xa) then 0 else 1) : Int32) = 0 then 0 else (if ((if 16 ≤ (f_CO_rs2 xa) then 0 else 1) : Int32) = 0 then 0 else (if (f_CO_isKnownWithRegister (f_CO_f xa) (f_CO_g xa)) = 0 then 0 else 1)))) : Int32) : Int32) = 0 := by simp only [if_pos h266]
        rw [e9] at J266
        exact J266
      ·
        refine v_iload_n X 1 dX1_isKnown_269 rfl rfl ?_
        refine v_if_eq X 295 dX1_isKnown_270 (by decide) (fun h270 => ?_) (fun h270 => ?_)
        ·
          refine v_iconst (v := 0) X dX1_isKnown_295 (by decide) ?_
          have e9 : (((if ((if 16 ≤ (f_CO_rd xa) then 0 else 1) : Int32) = 0 then 0 else (if ((if 16 ≤ (f_CO_rs1 xa) then 0 else 1) : Int32) = 0 then 0 else (if ((if 16 ≤ (f_CO_rs2 xa) then 0 else 1) : Int32) = 0 then 0 else (if (f_CO_isKnownWithRegister (f_CO_f xa) (f_CO_g xa)) = 0 then 0 else 1)))) : Int32) : Int32) = 0 := by simp only [if_neg h266, if_pos h270]
          rw [e9] at J266
          exact J266
        ·
          refine v_iload_n X 0 dX1_isKnown_273 rfl rfl ?_
          refine v_if_eq X 295 dX1_isKnown_274 (by decide) (fun h274 => ?_) (fun h274 => ?_)
          ·
            refine v_iconst (v := 0) X dX1_isKnown_295 (by decide) ?_
            have e9 : (((if ((if 16 ≤ (f_CO_rd xa) then 0 else 1) : Int32) = 0 then 0 else (if ((if 16 ≤ (f_CO_rs1 xa) then 0 else 1) : Int32) = 0 then 0 else (if ((if 16 ≤ (f_CO_rs2 xa) then 0 else 1) : Int32) = 0 then 0 else (if (f_CO_isKnownWithRegister (f_CO_f xa) (f_CO_g xa)) = 0 then 0 else 1)))) : Int32) : Int32) = 0 := by simp only [if_neg h266, if_neg h270, if_pos h274]
            rw [e9] at J266
            exact J266
          ·
            refine v_iload_n X 3 dX1_isKnown_277 rfl rfl ?_
            refine v_callS_CI (rest := []) X [.int xa] (c_CO_f xa σ ) mf_CO_f ws_CO_f wm_CO_24 rfl ⟨by decide, by decide⟩ (Nat.le_of_ble_eq_true rfl) ⟨by decide, by decide⟩ dX1_isKnown_278 ?_
            refine v_iload_n X 3 dX1_isKnown_281 rfl rfl ?_
            refine v_callS_CI (rest := [.int (f_CO_f xa)]) X [.int xa] (c_CO_g xa σ ) mf_CO_g ws_CO_g wm_CO_27 rfl ⟨by decide, by decide⟩ (Nat.le_of_ble_eq_true rfl) ⟨by decide, by decide⟩ dX1_isKnown_282 ?_
            refine v_callS_CI (rest := []) X [.int (f_CO_f xa), .int (f_CO_g xa)] (c_CO_isKnownWithRegister (f_CO_f xa) (f_CO_g xa) σ ) mf_CO_isKnownWithRegister ws_CO_isKnownWithRegister wm_CO_34 rfl ⟨by decide, by decide⟩ (Nat.le_of_ble_eq_true rfl) ⟨by decide, by decide⟩ dX1_isKnown_285 ?_
            refine v_if_eq X 295 dX1_isKnown_288 (by decide) (fun h288 => ?_) (fun h288 => ?_)
            ·
              refine v_iconst (v := 0) X dX1_isKnown_295 (by decide) ?_
              have e9 : (((if ((if 16 ≤ (f_CO_rd xa) then 0 else 1) : Int32) = 0 then 0 else (if ((if 16 ≤ (f_CO_rs1 xa) then 0 else 1) : Int32) = 0 then 0 else (if ((if 16 ≤ (f_CO_rs2 xa) then 0 else 1) : Int32) = 0 then 0 else (if (f_CO_isKnownWithRegister (f_CO_f xa) (f_CO_g xa)) = 0 then 0 else 1)))) : Int32) : Int32) = 0 := by simp only [if_neg h266, if_neg h270, if_neg h274, if_pos h288]
              rw [e9] at J266
              exact J266
            ·
              refine v_iconst (v := 1) X dX1_isKnown_291 (by decide) ?_
              refine v_goto (tgt := 296) X dX1_isKnown_292 (by decide) ?_
              have e9 : (((if ((if 16 ≤ (f_CO_rd xa) then 0 else 1) : Int32) = 0 then 0 else (if ((if 16 ≤ (f_CO_rs1 xa) then 0 else 1) : Int32) = 0 then 0 else (if ((if 16 ≤ (f_CO_rs2 xa) then 0 else 1) : Int32) = 0 then 0 else (if (f_CO_isKnownWithRegister (f_CO_f xa) (f_CO_g xa)) = 0 then 0 else 1)))) : Int32) : Int32) = 1 := by simp only [if_neg h266, if_neg h270, if_neg h274, if_neg h288]
              rw [e9] at J266
              exact J266
    have e9 : f_CO_isKnown xa = ((if ((if 16 ≤ (f_CO_rd xa) then 0 else 1) : Int32) = 0 then 0 else (if ((if 16 ≤ (f_CO_rs1 xa) then 0 else 1) : Int32) = 0 then 0 else (if ((if 16 ≤ (f_CO_rs2 xa) then 0 else 1) : Int32) = 0 then 0 else (if (f_CO_isKnownWithRegister (f_CO_f xa) (f_CO_g xa)) = 0 then 0 else 1)))) : Int32) := by simp only [f_CO_isKnown, if_neg h49_0, if_neg h49_1, if_neg h49_2, if_neg h49_3, if_pos h49_4]
    exact v_endI hend dX1_isKnown_296 e9 rfl
  by_cases h49_5 : (f_CO_o xa) = 55
  ·
    refine v_lsw (off := 91) X 140 dX1_isKnown_49 (by decide) (by rw [h49_5] <;> rfl) (by decide) ?_
    refine v_iload_n X 2 dX1_isKnown_140 rfl rfl ?_
    have e9 : f_CO_isKnown xa = ((if 16 ≤ (f_CO_rd xa) then 0 else 1) : Int32) := by simp only [f_CO_isKnown, if_neg h49_0, if_neg h49_1, if_neg h49_2, if_neg h49_3, if_neg h49_4, if_pos h49_5]
    exact v_endI hend dX1_isKnown_141 e9 rfl
  by_cases h49_6 : (f_CO_o xa) = 99
  ·
    refine v_lsw (off := 114) X 163 dX1_isKnown_49 (by decide) (by rw [h49_6] <;> rfl) (by decide) ?_
    refine v_iload_n X 3 dX1_isKnown_163 rfl rfl ?_
    refine v_callS_CI (rest := []) X [.int xa] (c_CO_f xa σ ) mf_CO_f ws_CO_f wm_CO_24 rfl ⟨by decide, by decide⟩ (Nat.le_of_ble_eq_true rfl) ⟨by decide, by decide⟩ dX1_isKnown_164 ?_
    refine v_iconst (v := 2) X dX1_isKnown_167 (by decide) ?_
    refine v_suff (pc2 := 192) (lv2 := [(3, .int ((if 16 ≤ (f_CO_rs2 xa) then 0 else 1) : Int32)), (2, .int ((if 16 ≤ (f_CO_rs1 xa) then 0 else 1) : Int32)), (1, .int ((if 16 ≤ (f_CO_rd xa) then 0 else 1) : Int32)), (0, .int xa)]) (st2 := [.int ((if (f_CO_f xa) = 2 then 0 else (if (f_CO_f xa) = 3 then 0 else (if ((if 16 ≤ (f_CO_rs1 xa) then 0 else 1) : Int32) = 0 then 0 else (if ((if 16 ≤ (f_CO_rs2 xa) then 0 else 1) : Int32) = 0 then 0 else 1)))) : Int32)]) (σ2 := σ) ?_ (fun J168 => ?_)
    rotate_left
    ·
      refine v_icmp_eq X 191 dX1_isKnown_168 (by decide) (fun h168 => ?_) (fun h168 => ?_)
      ·
        refine v_iconst (v := 0) X dX1_isKnown_191 (by decide) ?_
        have e9 : (((if (f_CO_f xa) = 2 then 0 else (if (f_CO_f xa) = 3 then 0 else (if ((if 16 ≤ (f_CO_rs1 xa) then 0 else 1) : Int32) = 0 then 0 else (if ((if 16 ≤ (f_CO_rs2 xa) then 0 else 1) : Int32) = 0 then 0 else 1)))) : Int32) : Int32) = 0 := by simp only [if_pos h168]
        rw [e9] at J168
        exact J168
      ·
        refine v_iload_n X 3 dX1_isKnown_171 rfl rfl ?_
        refine v_callS_CI (rest := []) X [.int xa] (c_CO_f xa σ ) mf_CO_f ws_CO_f wm_CO_24 rfl ⟨by decide, by decide⟩ (Nat.le_of_ble_eq_true rfl) ⟨by decide, by decide⟩ dX1_isKnown_172 ?_
        refine v_iconst (v := 3) X dX1_isKnown_175 (by decide) ?_
        refine v_icmp_eq X 191 dX1_isKnown_176 (by decide) (fun h176 => ?_) (fun h176 => ?_)
        ·
          refine v_iconst (v := 0) X dX1_isKnown_191 (by decide) ?_
          have e9 : (((if (f_CO_f xa) = 2 then 0 else (if (f_CO_f xa) = 3 then 0 else (if ((if 16 ≤ (f_CO_rs1 xa) then 0 else 1) : Int32) = 0 then 0 else (if ((if 16 ≤ (f_CO_rs2 xa) then 0 else 1) : Int32) = 0 then 0 else 1)))) : Int32) : Int32) = 0 := by simp only [if_neg h168, if_pos h176]
          rw [e9] at J168
          exact J168
        ·
          refine v_iload_n X 1 dX1_isKnown_179 rfl rfl ?_
          refine v_if_eq X 191 dX1_isKnown_180 (by decide) (fun h180 => ?_) (fun h180 => ?_)
          ·
            refine v_iconst (v := 0) X dX1_isKnown_191 (by decide) ?_
            have e9 : (((if (f_CO_f xa) = 2 then 0 else (if (f_CO_f xa) = 3 then 0 else (if ((if 16 ≤ (f_CO_rs1 xa) then 0 else 1) : Int32) = 0 then 0 else (if ((if 16 ≤ (f_CO_rs2 xa) then 0 else 1) : Int32) = 0 then 0 else 1)))) : Int32) : Int32) = 0 := by simp only [if_neg h168, if_neg h176, if_pos h180]
            rw [e9] at J168
            exact J168
          ·
            refine v_iload_n X 0 dX1_isKnown_183 rfl rfl ?_
            refine v_if_eq X 191 dX1_isKnown_184 (by decide) (fun h184 => ?_) (fun h184 => ?_)
            ·
              refine v_iconst (v := 0) X dX1_isKnown_191 (by decide) ?_
              have e9 : (((if (f_CO_f xa) = 2 then 0 else (if (f_CO_f xa) = 3 then 0 else (if ((if 16 ≤ (f_CO_rs1 xa) then 0 else 1) : Int32) = 0 then 0 else (if ((if 16 ≤ (f_CO_rs2 xa) then 0 else 1) : Int32) = 0 then 0 else 1)))) : Int32) : Int32) = 0 := by simp only [if_neg h168, if_neg h176, if_neg h180, if_pos h184]
              rw [e9] at J168
              exact J168
            ·
              refine v_iconst (v := 1) X dX1_isKnown_187 (by decide) ?_
              refine v_goto (tgt := 192) X dX1_isKnown_188 (by decide) ?_
              have e9 : (((if (f_CO_f xa) = 2 then 0 else (if (f_CO_f xa) = 3 then 0 else (if ((if 16 ≤ (f_CO_rs1 xa) then 0 else 1) : Int32) = 0 then 0 else (if ((if 16 ≤ (f_CO_rs2 xa) then 0 else 1) : Int32) = 0 then 0 else 1)))) : Int32) : Int32) = 1 := by simp only [if_neg h168, if_neg h176, if_neg h180, if_neg h184]
              rw [e9] at J168
              exact J168
    have e9 : f_CO_isKnown xa = ((if (f_CO_f xa) = 2 then 0 else (if (f_CO_f xa) = 3 then 0 else (if ((if 16 ≤ (f_CO_rs1 xa) then 0 else 1) : Int32) = 0 then 0 else (if ((if 16 ≤ (f_CO_rs2 xa) then 0 else 1) : Int32) = 0 then 0 else 1)))) : Int32) := by simp only [f_CO_isKnown, if_neg h49_0, if_neg h49_1, if_neg h49_2, if_neg h49_3, if_neg h49_4, if_neg h49_5, if_pos h49_6]
    exact v_endI hend dX1_isKnown_192 e9 rfl
  by_cases h49_7 : (f_CO_o xa) = 103
  ·
    refine v_lsw (off := 93) X 142 dX1_isKnown_49 (by decide) (by rw [h49_7] <;> rfl) (by decide) ?_
    refine v_iload_n X 3 dX1_isKnown_142 rfl rfl ?_
    refine v_callS_CI (rest := []) X [.int xa] (c_CO_f xa σ ) mf_CO_f ws_CO_f wm_CO_24 rfl ⟨by decide, by decide⟩ (Nat.le_of_ble_eq_true rfl) ⟨by decide, by decide⟩ dX1_isKnown_143 ?_
    refine v_suff (pc2 := 162) (lv2 := [(3, .int ((if 16 ≤ (f_CO_rs2 xa) then 0 else 1) : Int32)), (2, .int ((if 16 ≤ (f_CO_rs1 xa) then 0 else 1) : Int32)), (1, .int ((if 16 ≤ (f_CO_rd xa) then 0 else 1) : Int32)), (0, .int xa)]) (st2 := [.int ((if (f_CO_f xa) = 0 then (if ((if 16 ≤ (f_CO_rd xa) then 0 else 1) : Int32) = 0 then 0 else (if ((if 16 ≤ (f_CO_rs1 xa) then 0 else 1) : Int32) = 0 then 0 else 1)) else 0) : Int32)]) (σ2 := σ) ?_ (fun J146 => ?_)
    rotate_left
    ·
      refine v_if_ne X 161 dX1_isKnown_146 (by decide) (fun h146 => ?_) (fun h146 => ?_)
      ·
        refine v_iconst (v := 0) X dX1_isKnown_161 (by decide) ?_
        have e9 : (((if (f_CO_f xa) = 0 then (if ((if 16 ≤ (f_CO_rd xa) then 0 else 1) : Int32) = 0 then 0 else (if ((if 16 ≤ (f_CO_rs1 xa) then 0 else 1) : Int32) = 0 then 0 else 1)) else 0) : Int32) : Int32) = 0 := by simp only [if_neg h146]
        rw [e9] at J146
        exact J146
      ·
        refine v_iload_n X 2 dX1_isKnown_149 rfl rfl ?_
        refine v_if_eq X 161 dX1_isKnown_150 (by decide) (fun h150 => ?_) (fun h150 => ?_)
        ·
          refine v_iconst (v := 0) X dX1_isKnown_161 (by decide) ?_
          have e9 : (((if (f_CO_f xa) = 0 then (if ((if 16 ≤ (f_CO_rd xa) then 0 else 1) : Int32) = 0 then 0 else (if ((if 16 ≤ (f_CO_rs1 xa) then 0 else 1) : Int32) = 0 then 0 else 1)) else 0) : Int32) : Int32) = 0 := by simp only [if_pos h146, if_pos h150]
          rw [e9] at J146
          exact J146
        ·
          refine v_iload_n X 1 dX1_isKnown_153 rfl rfl ?_
          refine v_if_eq X 161 dX1_isKnown_154 (by decide) (fun h154 => ?_) (fun h154 => ?_)
          ·
            refine v_iconst (v := 0) X dX1_isKnown_161 (by decide) ?_
            have e9 : (((if (f_CO_f xa) = 0 then (if ((if 16 ≤ (f_CO_rd xa) then 0 else 1) : Int32) = 0 then 0 else (if ((if 16 ≤ (f_CO_rs1 xa) then 0 else 1) : Int32) = 0 then 0 else 1)) else 0) : Int32) : Int32) = 0 := by simp only [if_pos h146, if_neg h150, if_pos h154]
            rw [e9] at J146
            exact J146
          ·
            refine v_iconst (v := 1) X dX1_isKnown_157 (by decide) ?_
            refine v_goto (tgt := 162) X dX1_isKnown_158 (by decide) ?_
            have e9 : (((if (f_CO_f xa) = 0 then (if ((if 16 ≤ (f_CO_rd xa) then 0 else 1) : Int32) = 0 then 0 else (if ((if 16 ≤ (f_CO_rs1 xa) then 0 else 1) : Int32) = 0 then 0 else 1)) else 0) : Int32) : Int32) = 1 := by simp only [if_pos h146, if_neg h150, if_neg h154]
            rw [e9] at J146
            exact J146
    have e9 : f_CO_isKnown xa = ((if (f_CO_f xa) = 0 then (if ((if 16 ≤ (f_CO_rd xa) then 0 else 1) : Int32) = 0 then 0 else (if ((if 16 ≤ (f_CO_rs1 xa) then 0 else 1) : Int32) = 0 then 0 else 1)) else 0) : Int32) := by simp only [f_CO_isKnown, if_neg h49_0, if_neg h49_1, if_neg h49_2, if_neg h49_3, if_neg h49_4, if_neg h49_5, if_neg h49_6, if_pos h49_7]
    exact v_endI hend dX1_isKnown_162 e9 rfl
  by_cases h49_8 : (f_CO_o xa) = 111
  ·
    refine v_lsw (off := 91) X 140 dX1_isKnown_49 (by decide) (by rw [h49_8] <;> rfl) (by decide) ?_
    refine v_iload_n X 2 dX1_isKnown_140 rfl rfl ?_
    have e9 : f_CO_isKnown xa = ((if 16 ≤ (f_CO_rd xa) then 0 else 1) : Int32) := by simp only [f_CO_isKnown, if_neg h49_0, if_neg h49_1, if_neg h49_2, if_neg h49_3, if_neg h49_4, if_neg h49_5, if_neg h49_6, if_neg h49_7, if_pos h49_8]
    exact v_endI hend dX1_isKnown_141 e9 rfl
  by_cases h49_9 : (f_CO_o xa) = 115
  ·
    refine v_lsw (off := 248) X 297 dX1_isKnown_49 (by decide) (by rw [h49_9] <;> rfl) (by decide) ?_
    refine v_iload_n X 3 dX1_isKnown_297 rfl rfl ?_
    refine v_bipush (v := 115) X dX1_isKnown_298 (by decide) ?_
    refine v_suff (pc2 := 314) (lv2 := [(3, .int ((if 16 ≤ (f_CO_rs2 xa) then 0 else 1) : Int32)), (2, .int ((if 16 ≤ (f_CO_rs1 xa) then 0 else 1) : Int32)), (1, .int ((if 16 ≤ (f_CO_rd xa) then 0 else 1) : Int32)), (0, .int xa)]) (st2 := [.int ((if xa = 115 then 1 else (if xa = 1048691 then 1 else 0)) : Int32)]) (σ2 := σ) ?_ (fun J300 => ?_)
    rotate_left
    ·
      refine v_icmp_eq X 309 dX1_isKnown_300 (by decide) (fun h300 => ?_) (fun h300 => ?_)
      ·
        refine v_iconst (v := 1) X dX1_isKnown_309 (by decide) ?_
        refine v_goto (tgt := 314) X dX1_isKnown_310 (by decide) ?_
        have e9 : (((if xa = 115 then 1 else (if xa = 1048691 then 1 else 0)) : Int32) : Int32) = 1 := by simp only [if_pos h300]
        rw [e9] at J300
        exact J300
      ·
        refine v_iload_n X 3 dX1_isKnown_303 rfl rfl ?_
        refine v_ldc (v := 1048691) X wk_CO_37 dX1_isKnown_304 ?_
        refine v_icmp_ne X 313 dX1_isKnown_306 (by decide) (fun h306 => ?_) (fun h306 => ?_)
        ·
          refine v_iconst (v := 0) X dX1_isKnown_313 (by decide) ?_
          have e9 : (((if xa = 115 then 1 else (if xa = 1048691 then 1 else 0)) : Int32) : Int32) = 0 := by simp only [if_neg h300, if_neg h306]
          rw [e9] at J300
          exact J300
        ·
          refine v_iconst (v := 1) X dX1_isKnown_309 (by decide) ?_
          refine v_goto (tgt := 314) X dX1_isKnown_310 (by decide) ?_
          have e9 : (((if xa = 115 then 1 else (if xa = 1048691 then 1 else 0)) : Int32) : Int32) = 1 := by simp only [if_neg h300, if_pos h306]
          rw [e9] at J300
          exact J300
    have e9 : f_CO_isKnown xa = ((if xa = 115 then 1 else (if xa = 1048691 then 1 else 0)) : Int32) := by simp only [f_CO_isKnown, if_neg h49_0, if_neg h49_1, if_neg h49_2, if_neg h49_3, if_neg h49_4, if_neg h49_5, if_neg h49_6, if_neg h49_7, if_neg h49_8, if_pos h49_9]
    exact v_endI hend dX1_isKnown_314 e9 rfl
  refine v_lsw (off := 266) X 315 dX1_isKnown_49 (by decide) (by rw [lv_osw h49_0 (by decide)]; rw [lv_osw h49_1 (by decide)]; rw [lv_osw h49_2 (by decide)]; rw [lv_osw h49_3 (by decide)]; rw [lv_osw h49_4 (by decide)]; rw [lv_osw h49_5 (by decide)]; rw [lv_osw h49_6 (by decide)]; rw [lv_osw h49_7 (by decide)]; rw [lv_osw h49_8 (by decide)]; rw [lv_osw h49_9 (by decide)] <;> rfl) (by decide) ?_
  refine v_iconst (v := 0) X dX1_isKnown_315 (by decide) ?_
  have e9 : f_CO_isKnown xa = 0 := by simp only [f_CO_isKnown, if_neg h49_0, if_neg h49_1, if_neg h49_2, if_neg h49_3, if_neg h49_4, if_neg h49_5, if_neg h49_6, if_neg h49_7, if_neg h49_8, if_neg h49_9]
  exact v_endI hend dX1_isKnown_316 e9 rfl
def f_RE_lessWithoutSign (xa : Int32) (xb : Int32) : Int32 :=
  ((if (xb ^^^ (-2147483648)) ≤ (xa ^^^ (-2147483648)) then 0 else 1) : Int32)
theorem z_RE_lessWithoutSign (xa : Int32) (xb : Int32) : (f_RE_lessWithoutSign xa xb) = 0 ∨ (f_RE_lessWithoutSign xa xb) = 1 := by
  unfold f_RE_lessWithoutSign
  repeat' first | exact Or.inl rfl | exact Or.inr rfl | apply z_ite | split
set_option maxHeartbeats 4000000 in
set_option maxRecDepth 100000 in
theorem c_RE_lessWithoutSign (xa : Int32) (xb : Int32) (σ : St) : CI l D (tyL cA) rh (rcW rh cA) NW yX4_lessWithoutSign cX4_lessWithoutSign 2 .boolean 0 [.int xa, .int xb] σ (f_RE_lessWithoutSign xa xb) σ := by
  refine CI.of rfl (Nat.le_of_ble_eq_true rfl) (zN (z_RE_lessWithoutSign ..)) ?_
  intro p9 e s m args below meth c A Q X hend
  refine v_lv (lv' := [(0, .int xa), (1, .int xb)]) [0, 1] rfl ?_
  refine v_iload_n X 0 dX4_lessWithoutSign_0 rfl rfl ?_
  refine v_ldc (v := (-2147483648)) X wk_RE_13 dX4_lessWithoutSign_1 ?_
  refine v_ixor X dX4_lessWithoutSign_3 ?_
  refine v_iload_n X 1 dX4_lessWithoutSign_4 rfl rfl ?_
  refine v_ldc (v := (-2147483648)) X wk_RE_13 dX4_lessWithoutSign_5 ?_
  refine v_ixor X dX4_lessWithoutSign_7 ?_
  refine v_suff (pc2 := 16) (lv2 := [(0, .int xa), (1, .int xb)]) (st2 := [.int ((if (xb ^^^ (-2147483648)) ≤ (xa ^^^ (-2147483648)) then 0 else 1) : Int32)]) (σ2 := σ) ?_ (fun J8 => ?_)
  rotate_left
  ·
    refine v_icmp_ge X 15 dX4_lessWithoutSign_8 (by decide) (fun h8 => ?_) (fun h8 => ?_)
    ·
      refine v_iconst (v := 0) X dX4_lessWithoutSign_15 (by decide) ?_
      have e9 : (((if (xb ^^^ (-2147483648)) ≤ (xa ^^^ (-2147483648)) then 0 else 1) : Int32) : Int32) = 0 := by simp only [if_pos h8]
      rw [e9] at J8
      exact J8
    ·
      refine v_iconst (v := 1) X dX4_lessWithoutSign_11 (by decide) ?_
      refine v_goto (tgt := 16) X dX4_lessWithoutSign_12 (by decide) ?_
      have e9 : (((if (xb ^^^ (-2147483648)) ≤ (xa ^^^ (-2147483648)) then 0 else 1) : Int32) : Int32) = 1 := by simp only [if_neg h8]
      rw [e9] at J8
      exact J8
  have e9 : f_RE_lessWithoutSign xa xb = ((if (xb ^^^ (-2147483648)) ≤ (xa ^^^ (-2147483648)) then 0 else 1) : Int32) := by simp only [f_RE_lessWithoutSign]
  exact v_endI hend dX4_lessWithoutSign_16 e9 rfl
def f_RE_combined (xa : Int32) (xb : Int32) (xc : Int32) (xd : Int32) : Int32 :=
  (if xa = 0 then ((if xb = 0 then (xc + xd) else (xc - xd)) : Int32) else (if xa = 1 then (shl xc (xd &&& 31)) else (if xa = 2 then ((if xd ≤ xc then 0 else 1) : Int32) else (if xa = 3 then ((if (f_RE_lessWithoutSign xc xd) = 0 then 0 else 1) : Int32) else (if xa = 4 then (xc ^^^ xd) else (if xa = 5 then ((if xb = 0 then (ushr xc (xd &&& 31)) else (sshr xc (xd &&& 31))) : Int32) else (if xa = 6 then (xc ||| xd) else (xc &&& xd))))))))
set_option maxHeartbeats 4000000 in
set_option maxRecDepth 100000 in
theorem c_RE_combined (xa : Int32) (xb : Int32) (xc : Int32) (xd : Int32) (σ : St) : CI l D (tyL cA) rh (rcW rh cA) NW yX4_combined cX4_combined 4 .int 1 [.int xa, .int xb, .int xc, .int xd] σ (f_RE_combined xa xb xc xd) σ := by
  refine CI.of rfl (Nat.le_of_ble_eq_true rfl) rfl ?_
  intro p9 e s m args below meth c A Q X hend
  refine v_lv (lv' := [(0, .int xa), (1, .int xb), (2, .int xc), (3, .int xd)]) [0, 1, 2, 3] rfl ?_
  refine v_iload_n X 0 dX4_combined_0 rfl rfl ?_
  by_cases h1_0 : xa = 0
  ·
    refine v_tswI (off := 43) X 0 44 h1_0 dX4_combined_1 (by decide) (by decide) ?_
    refine v_iload_n X 1 dX4_combined_44 rfl rfl ?_
    refine v_suff (pc2 := 57) (lv2 := [(0, .int xa), (1, .int xb), (2, .int xc), (3, .int xd)]) (st2 := [.int ((if xb = 0 then (xc + xd) else (xc - xd)) : Int32)]) (σ2 := σ) ?_ (fun J45 => ?_)
    rotate_left
    ·
      refine v_if_eq X 54 dX4_combined_45 (by decide) (fun h45 => ?_) (fun h45 => ?_)
      ·
        refine v_iload_n X 2 dX4_combined_54 rfl rfl ?_
        refine v_iload_n X 3 dX4_combined_55 rfl rfl ?_
        refine v_iadd X dX4_combined_56 ?_
        have e9 : (((if xb = 0 then (xc + xd) else (xc - xd)) : Int32) : Int32) = (xc + xd) := by simp only [if_pos h45]
        rw [e9] at J45
        exact J45
      ·
        refine v_iload_n X 2 dX4_combined_48 rfl rfl ?_
        refine v_iload_n X 3 dX4_combined_49 rfl rfl ?_
        refine v_isub X dX4_combined_50 ?_
        refine v_goto (tgt := 57) X dX4_combined_51 (by decide) ?_
        have e9 : (((if xb = 0 then (xc + xd) else (xc - xd)) : Int32) : Int32) = (xc - xd) := by simp only [if_neg h45]
        rw [e9] at J45
        exact J45
    have e9 : f_RE_combined xa xb xc xd = ((if xb = 0 then (xc + xd) else (xc - xd)) : Int32) := by simp only [f_RE_combined, if_pos h1_0]
    exact v_endI hend dX4_combined_57 e9 rfl
  by_cases h1_1 : xa = 1
  ·
    refine v_tswI (off := 57) X 1 58 h1_1 dX4_combined_1 (by decide) (by decide) ?_
    refine v_iload_n X 2 dX4_combined_58 rfl rfl ?_
    refine v_iload_n X 3 dX4_combined_59 rfl rfl ?_
    refine v_bipush (v := 31) X dX4_combined_60 (by decide) ?_
    refine v_iand X dX4_combined_62 ?_
    refine v_ishl X dX4_combined_63 ?_
    have e9 : f_RE_combined xa xb xc xd = (shl xc (xd &&& 31)) := by simp only [f_RE_combined, if_neg h1_0, if_pos h1_1]
    exact v_endI hend dX4_combined_64 e9 rfl
  by_cases h1_2 : xa = 2
  ·
    refine v_tswI (off := 64) X 2 65 h1_2 dX4_combined_1 (by decide) (by decide) ?_
    refine v_iload_n X 2 dX4_combined_65 rfl rfl ?_
    refine v_iload_n X 3 dX4_combined_66 rfl rfl ?_
    refine v_suff (pc2 := 75) (lv2 := [(0, .int xa), (1, .int xb), (2, .int xc), (3, .int xd)]) (st2 := [.int ((if xd ≤ xc then 0 else 1) : Int32)]) (σ2 := σ) ?_ (fun J67 => ?_)
    rotate_left
    ·
      refine v_icmp_ge X 74 dX4_combined_67 (by decide) (fun h67 => ?_) (fun h67 => ?_)
      ·
        refine v_iconst (v := 0) X dX4_combined_74 (by decide) ?_
        have e9 : (((if xd ≤ xc then 0 else 1) : Int32) : Int32) = 0 := by simp only [if_pos h67]
        rw [e9] at J67
        exact J67
      ·
        refine v_iconst (v := 1) X dX4_combined_70 (by decide) ?_
        refine v_goto (tgt := 75) X dX4_combined_71 (by decide) ?_
        have e9 : (((if xd ≤ xc then 0 else 1) : Int32) : Int32) = 1 := by simp only [if_neg h67]
        rw [e9] at J67
        exact J67
    have e9 : f_RE_combined xa xb xc xd = ((if xd ≤ xc then 0 else 1) : Int32) := by simp only [f_RE_combined, if_neg h1_0, if_neg h1_1, if_pos h1_2]
    exact v_endI hend dX4_combined_75 e9 rfl
  by_cases h1_3 : xa = 3
  ·
    refine v_tswI (off := 75) X 3 76 h1_3 dX4_combined_1 (by decide) (by decide) ?_
    refine v_iload_n X 2 dX4_combined_76 rfl rfl ?_
    refine v_iload_n X 3 dX4_combined_77 rfl rfl ?_
    refine v_callS_CI (rest := []) X [.int xc, .int xd] (c_RE_lessWithoutSign xc xd σ ) mf_RE_lessWithoutSign ws_RE_lessWithoutSign wm_RE_7 rfl ⟨by decide, by decide⟩ (Nat.le_of_ble_eq_true rfl) ⟨by decide, by decide⟩ dX4_combined_78 ?_
    refine v_suff (pc2 := 89) (lv2 := [(0, .int xa), (1, .int xb), (2, .int xc), (3, .int xd)]) (st2 := [.int ((if (f_RE_lessWithoutSign xc xd) = 0 then 0 else 1) : Int32)]) (σ2 := σ) ?_ (fun J81 => ?_)
    rotate_left
    ·
      refine v_if_eq X 88 dX4_combined_81 (by decide) (fun h81 => ?_) (fun h81 => ?_)
      ·
        refine v_iconst (v := 0) X dX4_combined_88 (by decide) ?_
        have e9 : (((if (f_RE_lessWithoutSign xc xd) = 0 then 0 else 1) : Int32) : Int32) = 0 := by simp only [if_pos h81]
        rw [e9] at J81
        exact J81
      ·
        refine v_iconst (v := 1) X dX4_combined_84 (by decide) ?_
        refine v_goto (tgt := 89) X dX4_combined_85 (by decide) ?_
        have e9 : (((if (f_RE_lessWithoutSign xc xd) = 0 then 0 else 1) : Int32) : Int32) = 1 := by simp only [if_neg h81]
        rw [e9] at J81
        exact J81
    have e9 : f_RE_combined xa xb xc xd = ((if (f_RE_lessWithoutSign xc xd) = 0 then 0 else 1) : Int32) := by simp only [f_RE_combined, if_neg h1_0, if_neg h1_1, if_neg h1_2, if_pos h1_3]
    exact v_endI hend dX4_combined_89 e9 rfl
  by_cases h1_4 : xa = 4
  ·
    refine v_tswI (off := 89) X 4 90 h1_4 dX4_combined_1 (by decide) (by decide) ?_
    refine v_iload_n X 2 dX4_combined_90 rfl rfl ?_
    refine v_iload_n X 3 dX4_combined_91 rfl rfl ?_
    refine v_ixor X dX4_combined_92 ?_
    have e9 : f_RE_combined xa xb xc xd = (xc ^^^ xd) := by simp only [f_RE_combined, if_neg h1_0, if_neg h1_1, if_neg h1_2, if_neg h1_3, if_pos h1_4]
    exact v_endI hend dX4_combined_93 e9 rfl
  by_cases h1_5 : xa = 5
  ·
    refine v_tswI (off := 93) X 5 94 h1_5 dX4_combined_1 (by decide) (by decide) ?_
    refine v_iload_n X 1 dX4_combined_94 rfl rfl ?_
    refine v_suff (pc2 := 113) (lv2 := [(0, .int xa), (1, .int xb), (2, .int xc), (3, .int xd)]) (st2 := [.int ((if xb = 0 then (ushr xc (xd &&& 31)) else (sshr xc (xd &&& 31))) : Int32)]) (σ2 := σ) ?_ (fun J95 => ?_)
    rotate_left
    ·
      refine v_if_eq X 107 dX4_combined_95 (by decide) (fun h95 => ?_) (fun h95 => ?_)
      ·
        refine v_iload_n X 2 dX4_combined_107 rfl rfl ?_
        refine v_iload_n X 3 dX4_combined_108 rfl rfl ?_
        refine v_bipush (v := 31) X dX4_combined_109 (by decide) ?_
        refine v_iand X dX4_combined_111 ?_
        refine v_iushr X dX4_combined_112 ?_
        have e9 : (((if xb = 0 then (ushr xc (xd &&& 31)) else (sshr xc (xd &&& 31))) : Int32) : Int32) = (ushr xc (xd &&& 31)) := by simp only [if_pos h95]
        rw [e9] at J95
        exact J95
      ·
        refine v_iload_n X 2 dX4_combined_98 rfl rfl ?_
        refine v_iload_n X 3 dX4_combined_99 rfl rfl ?_
        refine v_bipush (v := 31) X dX4_combined_100 (by decide) ?_
        refine v_iand X dX4_combined_102 ?_
        refine v_ishr X dX4_combined_103 ?_
        refine v_goto (tgt := 113) X dX4_combined_104 (by decide) ?_
        have e9 : (((if xb = 0 then (ushr xc (xd &&& 31)) else (sshr xc (xd &&& 31))) : Int32) : Int32) = (sshr xc (xd &&& 31)) := by simp only [if_neg h95]
        rw [e9] at J95
        exact J95
    have e9 : f_RE_combined xa xb xc xd = ((if xb = 0 then (ushr xc (xd &&& 31)) else (sshr xc (xd &&& 31))) : Int32) := by simp only [f_RE_combined, if_neg h1_0, if_neg h1_1, if_neg h1_2, if_neg h1_3, if_neg h1_4, if_pos h1_5]
    exact v_endI hend dX4_combined_113 e9 rfl
  by_cases h1_6 : xa = 6
  ·
    refine v_tswI (off := 113) X 6 114 h1_6 dX4_combined_1 (by decide) (by decide) ?_
    refine v_iload_n X 2 dX4_combined_114 rfl rfl ?_
    refine v_iload_n X 3 dX4_combined_115 rfl rfl ?_
    refine v_ior X dX4_combined_116 ?_
    have e9 : f_RE_combined xa xb xc xd = (xc ||| xd) := by simp only [f_RE_combined, if_neg h1_0, if_neg h1_1, if_neg h1_2, if_neg h1_3, if_neg h1_4, if_neg h1_5, if_pos h1_6]
    exact v_endI hend dX4_combined_117 e9 rfl
  refine v_tswO X 118 dX4_combined_1 (by have g0 := lv_neT (a := 0) h1_0 (by decide); have g1 := lv_neT (a := 1) h1_1 (by decide); have g2 := lv_neT (a := 2) h1_2 (by decide); have g3 := lv_neT (a := 3) h1_3 (by decide); have g4 := lv_neT (a := 4) h1_4 (by decide); have g5 := lv_neT (a := 5) h1_5 (by decide); have g6 := lv_neT (a := 6) h1_6 (by decide); omega) (by decide) ?_
  refine v_iload_n X 2 dX4_combined_118 rfl rfl ?_
  refine v_iload_n X 3 dX4_combined_119 rfl rfl ?_
  refine v_iand X dX4_combined_120 ?_
  have e9 : f_RE_combined xa xb xc xd = (xc &&& xd) := by simp only [f_RE_combined, if_neg h1_0, if_neg h1_1, if_neg h1_2, if_neg h1_3, if_neg h1_4, if_neg h1_5, if_neg h1_6]
  exact v_endI hend dX4_combined_121 e9 rfl
def f_RE_branches (xa : Int32) (xb : Int32) (xc : Int32) : Int32 :=
  (if xa = 0 then ((if xb = xc then 1 else 0) : Int32) else (if xa = 1 then ((if xb = xc then 0 else 1) : Int32) else (if xa = 2 then ((if (f_RE_lessWithoutSign xb xc) = 0 then 1 else 0) : Int32) else (if xa = 3 then ((if (f_RE_lessWithoutSign xb xc) = 0 then 1 else 0) : Int32) else (if xa = 4 then ((if xc ≤ xb then 0 else 1) : Int32) else (if xa = 5 then ((if xb < xc then 0 else 1) : Int32) else (if xa = 6 then (f_RE_lessWithoutSign xb xc) else ((if (f_RE_lessWithoutSign xb xc) = 0 then 1 else 0) : Int32))))))))
theorem z_RE_branches (xa : Int32) (xb : Int32) (xc : Int32) : (f_RE_branches xa xb xc) = 0 ∨ (f_RE_branches xa xb xc) = 1 := by
  unfold f_RE_branches
  repeat' first | exact Or.inl rfl | exact Or.inr rfl | exact z_RE_lessWithoutSign .. | apply z_ite | split
set_option maxHeartbeats 4000000 in
set_option maxRecDepth 100000 in
theorem c_RE_branches (xa : Int32) (xb : Int32) (xc : Int32) (σ : St) : CI l D (tyL cA) rh (rcW rh cA) NW yX4_branches cX4_branches 3 .boolean 1 [.int xa, .int xb, .int xc] σ (f_RE_branches xa xb xc) σ := by
  refine CI.of rfl (Nat.le_of_ble_eq_true rfl) (zN (z_RE_branches ..)) ?_
  intro p9 e s m args below meth c A Q X hend
  refine v_lv (lv' := [(0, .int xa), (1, .int xb), (2, .int xc)]) [0, 1, 2] rfl ?_
  refine v_iload_n X 0 dX4_branches_0 rfl rfl ?_
  by_cases h1_0 : xa = 0
  ·
    refine v_tswI (off := 43) X 0 44 h1_0 dX4_branches_1 (by decide) (by decide) ?_
    refine v_iload_n X 1 dX4_branches_44 rfl rfl ?_
    refine v_iload_n X 2 dX4_branches_45 rfl rfl ?_
    refine v_suff (pc2 := 54) (lv2 := [(0, .int xa), (1, .int xb), (2, .int xc)]) (st2 := [.int ((if xb = xc then 1 else 0) : Int32)]) (σ2 := σ) ?_ (fun J46 => ?_)
    rotate_left
    ·
      refine v_icmp_ne X 53 dX4_branches_46 (by decide) (fun h46 => ?_) (fun h46 => ?_)
      ·
        refine v_iconst (v := 0) X dX4_branches_53 (by decide) ?_
        have e9 : (((if xb = xc then 1 else 0) : Int32) : Int32) = 0 := by simp only [if_neg h46]
        rw [e9] at J46
        exact J46
      ·
        refine v_iconst (v := 1) X dX4_branches_49 (by decide) ?_
        refine v_goto (tgt := 54) X dX4_branches_50 (by decide) ?_
        have e9 : (((if xb = xc then 1 else 0) : Int32) : Int32) = 1 := by simp only [if_pos h46]
        rw [e9] at J46
        exact J46
    have e9 : f_RE_branches xa xb xc = ((if xb = xc then 1 else 0) : Int32) := by simp only [f_RE_branches, if_pos h1_0]
    exact v_endI hend dX4_branches_54 e9 rfl
  by_cases h1_1 : xa = 1
  ·
    refine v_tswI (off := 54) X 1 55 h1_1 dX4_branches_1 (by decide) (by decide) ?_
    refine v_iload_n X 1 dX4_branches_55 rfl rfl ?_
    refine v_iload_n X 2 dX4_branches_56 rfl rfl ?_
    refine v_suff (pc2 := 65) (lv2 := [(0, .int xa), (1, .int xb), (2, .int xc)]) (st2 := [.int ((if xb = xc then 0 else 1) : Int32)]) (σ2 := σ) ?_ (fun J57 => ?_)
    rotate_left
    ·
      refine v_icmp_eq X 64 dX4_branches_57 (by decide) (fun h57 => ?_) (fun h57 => ?_)
      ·
        refine v_iconst (v := 0) X dX4_branches_64 (by decide) ?_
        have e9 : (((if xb = xc then 0 else 1) : Int32) : Int32) = 0 := by simp only [if_pos h57]
        rw [e9] at J57
        exact J57
      ·
        refine v_iconst (v := 1) X dX4_branches_60 (by decide) ?_
        refine v_goto (tgt := 65) X dX4_branches_61 (by decide) ?_
        have e9 : (((if xb = xc then 0 else 1) : Int32) : Int32) = 1 := by simp only [if_neg h57]
        rw [e9] at J57
        exact J57
    have e9 : f_RE_branches xa xb xc = ((if xb = xc then 0 else 1) : Int32) := by simp only [f_RE_branches, if_neg h1_0, if_pos h1_1]
    exact v_endI hend dX4_branches_65 e9 rfl
  by_cases h1_2 : xa = 2
  ·
    refine v_tswI (off := 93) X 2 94 h1_2 dX4_branches_1 (by decide) (by decide) ?_
    refine v_iload_n X 1 dX4_branches_94 rfl rfl ?_
    refine v_iload_n X 2 dX4_branches_95 rfl rfl ?_
    refine v_callS_CI (rest := []) X [.int xb, .int xc] (c_RE_lessWithoutSign xb xc σ ) mf_RE_lessWithoutSign ws_RE_lessWithoutSign wm_RE_7 rfl ⟨by decide, by decide⟩ (Nat.le_of_ble_eq_true rfl) ⟨by decide, by decide⟩ dX4_branches_96 ?_
    refine v_suff (pc2 := 107) (lv2 := [(0, .int xa), (1, .int xb), (2, .int xc)]) (st2 := [.int ((if (f_RE_lessWithoutSign xb xc) = 0 then 1 else 0) : Int32)]) (σ2 := σ) ?_ (fun J99 => ?_)
    rotate_left
    ·
      refine v_if_ne X 106 dX4_branches_99 (by decide) (fun h99 => ?_) (fun h99 => ?_)
      ·
        refine v_iconst (v := 0) X dX4_branches_106 (by decide) ?_
        have e9 : (((if (f_RE_lessWithoutSign xb xc) = 0 then 1 else 0) : Int32) : Int32) = 0 := by simp only [if_neg h99]
        rw [e9] at J99
        exact J99
      ·
        refine v_iconst (v := 1) X dX4_branches_102 (by decide) ?_
        refine v_goto (tgt := 107) X dX4_branches_103 (by decide) ?_
        have e9 : (((if (f_RE_lessWithoutSign xb xc) = 0 then 1 else 0) : Int32) : Int32) = 1 := by simp only [if_pos h99]
        rw [e9] at J99
        exact J99
    have e9 : f_RE_branches xa xb xc = ((if (f_RE_lessWithoutSign xb xc) = 0 then 1 else 0) : Int32) := by simp only [f_RE_branches, if_neg h1_0, if_neg h1_1, if_pos h1_2]
    exact v_endI hend dX4_branches_107 e9 rfl
  by_cases h1_3 : xa = 3
  ·
    refine v_tswI (off := 93) X 3 94 h1_3 dX4_branches_1 (by decide) (by decide) ?_
    refine v_iload_n X 1 dX4_branches_94 rfl rfl ?_
    refine v_iload_n X 2 dX4_branches_95 rfl rfl ?_
    refine v_callS_CI (rest := []) X [.int xb, .int xc] (c_RE_lessWithoutSign xb xc σ ) mf_RE_lessWithoutSign ws_RE_lessWithoutSign wm_RE_7 rfl ⟨by decide, by decide⟩ (Nat.le_of_ble_eq_true rfl) ⟨by decide, by decide⟩ dX4_branches_96 ?_
    refine v_suff (pc2 := 107) (lv2 := [(0, .int xa), (1, .int xb), (2, .int xc)]) (st2 := [.int ((if (f_RE_lessWithoutSign xb xc) = 0 then 1 else 0) : Int32)]) (σ2 := σ) ?_ (fun J99 => ?_)
    rotate_left
    ·
      refine v_if_ne X 106 dX4_branches_99 (by decide) (fun h99 => ?_) (fun h99 => ?_)
      ·
        refine v_iconst (v := 0) X dX4_branches_106 (by decide) ?_
        have e9 : (((if (f_RE_lessWithoutSign xb xc) = 0 then 1 else 0) : Int32) : Int32) = 0 := by simp only [if_neg h99]
        rw [e9] at J99
        exact J99
      ·
        refine v_iconst (v := 1) X dX4_branches_102 (by decide) ?_
        refine v_goto (tgt := 107) X dX4_branches_103 (by decide) ?_
        have e9 : (((if (f_RE_lessWithoutSign xb xc) = 0 then 1 else 0) : Int32) : Int32) = 1 := by simp only [if_pos h99]
        rw [e9] at J99
        exact J99
    have e9 : f_RE_branches xa xb xc = ((if (f_RE_lessWithoutSign xb xc) = 0 then 1 else 0) : Int32) := by simp only [f_RE_branches, if_neg h1_0, if_neg h1_1, if_neg h1_2, if_pos h1_3]
    exact v_endI hend dX4_branches_107 e9 rfl
  by_cases h1_4 : xa = 4
  ·
    refine v_tswI (off := 65) X 4 66 h1_4 dX4_branches_1 (by decide) (by decide) ?_
    refine v_iload_n X 1 dX4_branches_66 rfl rfl ?_
    refine v_iload_n X 2 dX4_branches_67 rfl rfl ?_
    refine v_suff (pc2 := 76) (lv2 := [(0, .int xa), (1, .int xb), (2, .int xc)]) (st2 := [.int ((if xc ≤ xb then 0 else 1) : Int32)]) (σ2 := σ) ?_ (fun J68 => ?_)
    rotate_left
    ·
      refine v_icmp_ge X 75 dX4_branches_68 (by decide) (fun h68 => ?_) (fun h68 => ?_)
      ·
        refine v_iconst (v := 0) X dX4_branches_75 (by decide) ?_
        have e9 : (((if xc ≤ xb then 0 else 1) : Int32) : Int32) = 0 := by simp only [if_pos h68]
        rw [e9] at J68
        exact J68
      ·
        refine v_iconst (v := 1) X dX4_branches_71 (by decide) ?_
        refine v_goto (tgt := 76) X dX4_branches_72 (by decide) ?_
        have e9 : (((if xc ≤ xb then 0 else 1) : Int32) : Int32) = 1 := by simp only [if_neg h68]
        rw [e9] at J68
        exact J68
    have e9 : f_RE_branches xa xb xc = ((if xc ≤ xb then 0 else 1) : Int32) := by simp only [f_RE_branches, if_neg h1_0, if_neg h1_1, if_neg h1_2, if_neg h1_3, if_pos h1_4]
    exact v_endI hend dX4_branches_76 e9 rfl
  by_cases h1_5 : xa = 5
  ·
    refine v_tswI (off := 76) X 5 77 h1_5 dX4_branches_1 (by decide) (by decide) ?_
    refine v_iload_n X 1 dX4_branches_77 rfl rfl ?_
    refine v_iload_n X 2 dX4_branches_78 rfl rfl ?_
    refine v_suff (pc2 := 87) (lv2 := [(0, .int xa), (1, .int xb), (2, .int xc)]) (st2 := [.int ((if xb < xc then 0 else 1) : Int32)]) (σ2 := σ) ?_ (fun J79 => ?_)
    rotate_left
    ·
      refine v_icmp_lt X 86 dX4_branches_79 (by decide) (fun h79 => ?_) (fun h79 => ?_)
      ·
        refine v_iconst (v := 0) X dX4_branches_86 (by decide) ?_
        have e9 : (((if xb < xc then 0 else 1) : Int32) : Int32) = 0 := by simp only [if_pos h79]
        rw [e9] at J79
        exact J79
      ·
        refine v_iconst (v := 1) X dX4_branches_82 (by decide) ?_
        refine v_goto (tgt := 87) X dX4_branches_83 (by decide) ?_
        have e9 : (((if xb < xc then 0 else 1) : Int32) : Int32) = 1 := by simp only [if_neg h79]
        rw [e9] at J79
        exact J79
    have e9 : f_RE_branches xa xb xc = ((if xb < xc then 0 else 1) : Int32) := by simp only [f_RE_branches, if_neg h1_0, if_neg h1_1, if_neg h1_2, if_neg h1_3, if_neg h1_4, if_pos h1_5]
    exact v_endI hend dX4_branches_87 e9 rfl
  by_cases h1_6 : xa = 6
  ·
    refine v_tswI (off := 87) X 6 88 h1_6 dX4_branches_1 (by decide) (by decide) ?_
    refine v_iload_n X 1 dX4_branches_88 rfl rfl ?_
    refine v_iload_n X 2 dX4_branches_89 rfl rfl ?_
    refine v_callS_CI (rest := []) X [.int xb, .int xc] (c_RE_lessWithoutSign xb xc σ ) mf_RE_lessWithoutSign ws_RE_lessWithoutSign wm_RE_7 rfl ⟨by decide, by decide⟩ (Nat.le_of_ble_eq_true rfl) ⟨by decide, by decide⟩ dX4_branches_90 ?_
    have e9 : f_RE_branches xa xb xc = (f_RE_lessWithoutSign xb xc) := by simp only [f_RE_branches, if_neg h1_0, if_neg h1_1, if_neg h1_2, if_neg h1_3, if_neg h1_4, if_neg h1_5, if_pos h1_6]
    exact v_endI hend dX4_branches_93 e9 rfl
  refine v_tswO X 94 dX4_branches_1 (by have g0 := lv_neT (a := 0) h1_0 (by decide); have g1 := lv_neT (a := 1) h1_1 (by decide); have g2 := lv_neT (a := 2) h1_2 (by decide); have g3 := lv_neT (a := 3) h1_3 (by decide); have g4 := lv_neT (a := 4) h1_4 (by decide); have g5 := lv_neT (a := 5) h1_5 (by decide); have g6 := lv_neT (a := 6) h1_6 (by decide); omega) (by decide) ?_
  refine v_iload_n X 1 dX4_branches_94 rfl rfl ?_
  refine v_iload_n X 2 dX4_branches_95 rfl rfl ?_
  refine v_callS_CI (rest := []) X [.int xb, .int xc] (c_RE_lessWithoutSign xb xc σ ) mf_RE_lessWithoutSign ws_RE_lessWithoutSign wm_RE_7 rfl ⟨by decide, by decide⟩ (Nat.le_of_ble_eq_true rfl) ⟨by decide, by decide⟩ dX4_branches_96 ?_
  refine v_suff (pc2 := 107) (lv2 := [(0, .int xa), (1, .int xb), (2, .int xc)]) (st2 := [.int ((if (f_RE_lessWithoutSign xb xc) = 0 then 1 else 0) : Int32)]) (σ2 := σ) ?_ (fun J99 => ?_)
  rotate_left
  ·
    refine v_if_ne X 106 dX4_branches_99 (by decide) (fun h99 => ?_) (fun h99 => ?_)
    ·
      refine v_iconst (v := 0) X dX4_branches_106 (by decide) ?_
      have e9 : (((if (f_RE_lessWithoutSign xb xc) = 0 then 1 else 0) : Int32) : Int32) = 0 := by simp only [if_neg h99]
      rw [e9] at J99
      exact J99
    ·
      refine v_iconst (v := 1) X dX4_branches_102 (by decide) ?_
      refine v_goto (tgt := 107) X dX4_branches_103 (by decide) ?_
      have e9 : (((if (f_RE_lessWithoutSign xb xc) = 0 then 1 else 0) : Int32) : Int32) = 1 := by simp only [if_pos h99]
      rw [e9] at J99
      exact J99
  have e9 : f_RE_branches xa xb xc = ((if (f_RE_lessWithoutSign xb xc) = 0 then 1 else 0) : Int32) := by simp only [f_RE_branches, if_neg h1_0, if_neg h1_1, if_neg h1_2, if_neg h1_3, if_neg h1_4, if_neg h1_5, if_neg h1_6]
  exact v_endI hend dX4_branches_107 e9 rfl
end CLS
end
section
theorem ic_ite {c : Prop} [Decidable c] {a b : St} (ha : c → Ic a) (hb : ¬ c → Ic b) : Ic (if c then a else b) := by
  split
  · exact ha (by assumption)
  · exact hb (by assumption)
theorem ic_ite2 {c : Prop} [Decidable c] {α : Type} {a b : α × St} (ha : c → Ic a.2) (hb : ¬ c → Ic b.2) : Ic (if c then a else b).2 := by
  split
  · exact ha (by assumption)
  · exact hb (by assumption)
theorem mf_PT_clearRegisters : MF yX3_clearRegisters cX3_clearRegisters 2 none 0 := ⟨gw_of (by decide +kernel) rfl, gw_of (by decide +kernel) rfl, by decide +kernel, by decide +kernel, by decide +kernel⟩
theorem mf_PT_measured : MF yX3_measured cX3_measured 3 (some .int) 0 := ⟨gw_of (by decide +kernel) rfl, gw_of (by decide +kernel) rfl, by decide +kernel, by decide +kernel, by decide +kernel⟩
theorem mf_PT_restart : MF yX3_restart cX3_restart 2 none 1 := ⟨gw_of (by decide +kernel) rfl, gw_of (by decide +kernel) rfl, by decide +kernel, by decide +kernel, by decide +kernel⟩
theorem mf_SM_mix : MF yX7_mix cX7_mix 3 (some .int) 2 := ⟨gw_of (by decide +kernel) rfl, gw_of (by decide +kernel) rfl, by decide +kernel, by decide +kernel, by decide +kernel⟩
theorem mf_TT_begin : MF yX6_begin cX6_begin 2 none 1 := ⟨gw_of (by decide +kernel) rfl, gw_of (by decide +kernel) rfl, by decide +kernel, by decide +kernel, by decide +kernel⟩
theorem wac_i : Cond.initialized "java/lang/System" ∈ gw := gw_of (by decide +kernel) rfl
theorem wac_n : Cond.native arraycopyName ∈ gw := gw_of (by decide +kernel) rfl
theorem wac_s : Cond.static arraycopyName ∈ gw := gw_of (by decide +kernel) rfl
theorem wf_PT_15 : Cond.fieldLink RX3 15 RX3 "first" "I" ∈ gw := gw_of (by decide +kernel) rfl
theorem wf_PT_18 : Cond.fieldLink RX3 18 RX3 "size" "I" ∈ gw := gw_of (by decide +kernel) rfl
theorem wf_PT_21 : Cond.fieldLink RX3 21 RX3 "how" "I" ∈ gw := gw_of (by decide +kernel) rfl
theorem wf_PT_24 : Cond.fieldLink RX3 24 RX3 "measurement" "I" ∈ gw := gw_of (by decide +kernel) rfl
theorem wf_PT_27 : Cond.fieldLink RX3 27 RX3 "pc" "I" ∈ gw := gw_of (by decide +kernel) rfl
theorem wf_PT_30 : Cond.fieldLink RX3 30 RX3 "ready" "Z" ∈ gw := gw_of (by decide +kernel) rfl
theorem wf_PT_34 : Cond.fieldLink RX3 34 RX3 "resting" "Z" ∈ gw := gw_of (by decide +kernel) rfl
theorem wf_PT_37 : Cond.fieldLink RX3 37 RX3 "registers" "[I" ∈ gw := gw_of (by decide +kernel) rfl
theorem wf_PT_41 : Cond.fieldLink RX3 41 RX3 "image" "[I" ∈ gw := gw_of (by decide +kernel) rfl
theorem wf_PT_44 : Cond.fieldLink RX3 44 RX3 "faults" "I" ∈ gw := gw_of (by decide +kernel) rfl
theorem wf_PT_47 : Cond.fieldLink RX3 47 RX3 "latestFault" "I" ∈ gw := gw_of (by decide +kernel) rfl
theorem wf_PT_50 : Cond.fieldLink RX3 50 RX3 "restarts" "I" ∈ gw := gw_of (by decide +kernel) rfl
theorem wf_PT_53 : Cond.fieldLink RX3 53 RX3 "begun" "I" ∈ gw := gw_of (by decide +kernel) rfl
theorem wf_TT_15 : Cond.fieldLink RX6 15 RX6 "lengths" "[I" ∈ gw := gw_of (by decide +kernel) rfl
theorem wf_TT_18 : Cond.fieldLink RX6 18 RX6 "size" "I" ∈ gw := gw_of (by decide +kernel) rfl
theorem wf_TT_22 : Cond.fieldLink RX6 22 RX6 "current" "I" ∈ gw := gw_of (by decide +kernel) rfl
theorem wf_TT_25 : Cond.fieldLink RX6 25 RX6 "left" "I" ∈ gw := gw_of (by decide +kernel) rfl
theorem wf_TT_28 : Cond.fieldLink RX6 28 RX6 "begun" "I" ∈ gw := gw_of (by decide +kernel) rfl
theorem wf_TT_9 : Cond.fieldLink RX6 9 RX6 "partitions" "[I" ∈ gw := gw_of (by decide +kernel) rfl
theorem wi_PT_clearRegisters : Cond.instanceMethod yX3_clearRegisters ∈ gw := gw_of (by decide +kernel) rfl
theorem wi_PT_measured : Cond.instanceMethod yX3_measured ∈ gw := gw_of (by decide +kernel) rfl
theorem wi_PT_restart : Cond.instanceMethod yX3_restart ∈ gw := gw_of (by decide +kernel) rfl
theorem wi_TT_begin : Cond.instanceMethod yX6_begin ∈ gw := gw_of (by decide +kernel) rfl
theorem wl_PT_clearRegisters : Cond.selects yX3_clearRegisters.cls yX3_clearRegisters yX3_clearRegisters ∈ gw := gw_of (by decide +kernel) rfl
theorem wl_PT_measured : Cond.selects yX3_measured.cls yX3_measured yX3_measured ∈ gw := gw_of (by decide +kernel) rfl
theorem wl_PT_restart : Cond.selects yX3_restart.cls yX3_restart yX3_restart ∈ gw := gw_of (by decide +kernel) rfl
theorem wl_TT_begin : Cond.selects yX6_begin.cls yX6_begin yX6_begin ∈ gw := gw_of (by decide +kernel) rfl
theorem wm_PT_56 : Cond.methodLink RX3 56 yX3_clearRegisters ∈ gw := gw_of (by decide +kernel) rfl
theorem wm_PT_59 : Cond.methodLink RX3 59 arraycopyName ∈ gw := gw_of (by decide +kernel) rfl
theorem wm_PT_65 : Cond.methodLink RX3 65 yX3_measured ∈ gw := gw_of (by decide +kernel) rfl
theorem wm_PT_77 : Cond.methodLink RX3 77 yX3_restart ∈ gw := gw_of (by decide +kernel) rfl
theorem wm_TT_31 : Cond.methodLink RX6 31 yX6_begin ∈ gw := gw_of (by decide +kernel) rfl
theorem wn_PT_69 : Cond.methodLinkNest RX3 69 yX7_mix RX7 ∈ nw := nw_of (by decide +kernel) rfl
theorem wn_PT_73 : Cond.methodLinkNest RX3 73 yX7_within RX7 ∈ nw := nw_of (by decide +kernel) rfl
theorem ws_SM_mix : Cond.static yX7_mix ∈ gw := gw_of (by decide +kernel) rfl
end
section
section CLS
variable {l : Launch} {D : va_G} {rh : Nat → Nat} {cA : Nat → ClassId}
def f_TT_append (xa : Int32) (xb : Int32) (σ : St) : St :=
  (if 6 ≤ (σ iTT 2) then σ else (up (up (up σ iTP ((σ iTT 2)).toNatClampNeg xa) iTL (((up σ iTP ((σ iTT 2)).toNatClampNeg xa) iTT 2)).toNatClampNeg xb) iTT 2 (((up (up σ iTP ((σ iTT 2)).toNatClampNeg xa) iTL (((up σ iTP ((σ iTT 2)).toNatClampNeg xa) iTT 2)).toNatClampNeg xb) iTT 2) + 1)))
set_option maxHeartbeats 4000000 in
set_option maxRecDepth 100000 in
theorem c_TT_append (xa : Int32) (xb : Int32) (σ : St) (hI : Ic σ) : CV l D (tyL cA) rh (rcW rh cA) NW yX6_append cX6_append 3 0 [.ref (rh iTT), .int xa, .int xb] σ (f_TT_append xa xb σ) := by
  refine CV.of rfl (Nat.le_of_ble_eq_true rfl) ?_
  intro p9 e s m args below meth c A Q X hend
  refine v_lv (lv' := [(0, .ref (rh iTT)), (1, .int xa), (2, .int xb)]) [0, 1, 2] rfl ?_
  refine v_aload_n X 0 dX6_append_0 rfl rfl ?_
  refine v_getI (i := iTT) (k := 2) X (lt_TT ) (sh_TT ) rfl in_TT (by decide) wf_TT_18 rfl (fun _ => rfl) dX6_append_1 ?_
  refine v_bipush (v := 6) X dX6_append_4 (by decide) ?_
  refine v_icmp_ge X 39 dX6_append_6 (by decide) (fun h6 => ?_) (fun h6 => ?_)
  ·
    have e9 : f_TT_append xa xb σ = σ := by simp only [f_TT_append, if_pos h6]
    exact v_endV hend dX6_append_39 e9
  ·
    refine v_aload_n X 0 dX6_append_9 rfl rfl ?_
    refine v_getR (j := iTP) (i := iTT) (k := 0) X (lt_TT ) (sh_TT ) rfl in_TT (by decide) wf_TT_9 rfl (fun _ => rfl) dX6_append_10 ?_
    refine v_aload_n X 0 dX6_append_13 rfl rfl ?_
    refine v_getI (i := iTT) (k := 2) X (lt_TT ) (sh_TT ) rfl in_TT (by decide) wf_TT_18 rfl (fun _ => rfl) dX6_append_14 ?_
    refine v_iload_n X 1 dX6_append_17 rfl rfl ?_
    have hv18 : vp_in (σ iTT 2) 6 := (vin_mk hI.ts.1 (nle (by decide) h6))
    refine v_iast (i := iTP) (t0 := 0) X (lt_TP ) (sh_TP ) rfl hv18 dX6_append_18 ?_
    refine v_aload_n X 0 dX6_append_19 rfl rfl ?_
    refine v_getR (j := iTL) (i := iTT) (k := 1) X (lt_TT ) (sh_TT ) rfl in_TT (by decide) wf_TT_15 rfl (fun _ => rfl) dX6_append_20 ?_
    refine v_aload_n X 0 dX6_append_23 rfl rfl ?_
    refine v_getI (i := iTT) (k := 2) X (lt_TT ) (sh_TT ) rfl in_TT (by decide) wf_TT_18 rfl (fun _ => rfl) dX6_append_24 ?_
    refine v_iload_n X 2 dX6_append_27 rfl rfl ?_
    have hv28 : vp_in ((up σ iTP ((σ iTT 2)).toNatClampNeg xa) iTT 2) 6 := (vin_mk (j := σ iTT 2) hI.ts.1 (nle (by decide) h6))
    refine v_iast (i := iTL) (t0 := 0) X (lt_TL ) (sh_TL ) rfl hv28 dX6_append_28 ?_
    refine v_aload_n X 0 dX6_append_29 rfl rfl ?_
    refine v_dup X dX6_append_30 rfl ?_
    refine v_getI (i := iTT) (k := 2) X (lt_TT ) (sh_TT ) rfl in_TT (by decide) wf_TT_18 rfl (fun _ => rfl) dX6_append_31 ?_
    refine v_iconst (v := 1) X dX6_append_34 (by decide) ?_
    refine v_iadd X dX6_append_35 ?_
    refine v_put (i := iTT) (k := 2) (x := (((up (up σ iTP ((σ iTT 2)).toNatClampNeg xa) iTL (((up σ iTP ((σ iTT 2)).toNatClampNeg xa) iTT 2)).toNatClampNeg xb) iTT 2) + 1)) (ty := .int) X (lt_TT ) (sh_TT ) rfl in_TT (by decide) tyX6 tyX6_ok nX6 wf_TT_18 rfl rfl rfl rfl rfl (fun _ => Nat.le_of_ble_eq_true rfl) (fun _ _ => rfl) dX6_append_36 ?_
    have e9 : f_TT_append xa xb σ = (up (up (up σ iTP ((σ iTT 2)).toNatClampNeg xa) iTL (((up σ iTP ((σ iTT 2)).toNatClampNeg xa) iTT 2)).toNatClampNeg xb) iTT 2 (((up (up σ iTP ((σ iTT 2)).toNatClampNeg xa) iTL (((up σ iTP ((σ iTT 2)).toNatClampNeg xa) iTT 2)).toNatClampNeg xb) iTT 2) + 1)) := by simp only [f_TT_append, if_neg h6]
    exact v_endV hend dX6_append_39 e9
-- I_TT_append: by hand
def f_TT_partitionNow (σ : St) : Int32 :=
  (σ iTP ((σ iTT 3)).toNatClampNeg)
set_option maxHeartbeats 4000000 in
set_option maxRecDepth 100000 in
theorem c_TT_partitionNow  (σ : St) (hI : Ic σ) : CI l D (tyL cA) rh (rcW rh cA) NW yX6_partitionNow cX6_partitionNow 1 .int 0 [.ref (rh iTT)] σ (f_TT_partitionNow σ) σ := by
  refine CI.of rfl (Nat.le_of_ble_eq_true rfl) rfl ?_
  intro p9 e s m args below meth c A Q X hend
  refine v_lv (lv' := [(0, .ref (rh iTT))]) [0] rfl ?_
  refine v_aload_n X 0 dX6_partitionNow_0 rfl rfl ?_
  refine v_getR (j := iTP) (i := iTT) (k := 0) X (lt_TT ) (sh_TT ) rfl in_TT (by decide) wf_TT_9 rfl (fun _ => rfl) dX6_partitionNow_1 ?_
  refine v_aload_n X 0 dX6_partitionNow_4 rfl rfl ?_
  refine v_getI (i := iTT) (k := 3) X (lt_TT ) (sh_TT ) rfl in_TT (by decide) wf_TT_22 rfl (fun _ => rfl) dX6_partitionNow_5 ?_
  have hv8 : vp_in (σ iTT 3) 6 := (vin_mk hI.tc.1 hI.tc.2)
  refine v_iald (i := iTP) (t0 := 0) X (lt_TP ) (sh_TP ) rfl hv8 dX6_partitionNow_8 ?_
  have e9 : f_TT_partitionNow σ = (σ iTP ((σ iTT 3)).toNatClampNeg) := by simp only [f_TT_partitionNow]
  exact v_endI hend dX6_partitionNow_9 e9 rfl
def f_TT_begin (xa : Int32) (σ : St) : St :=
  (up (up (up σ iTT 3 xa) iTT 4 ((up σ iTT 3 xa) iTL (xa).toNatClampNeg)) iTT 5 (((up (up σ iTT 3 xa) iTT 4 ((up σ iTT 3 xa) iTL (xa).toNatClampNeg)) iTT 5) + 1))
set_option maxHeartbeats 4000000 in
set_option maxRecDepth 100000 in
theorem c_TT_begin (xa : Int32) (σ : St) (hw : vp_in xa 6) : CV l D (tyL cA) rh (rcW rh cA) NW yX6_begin cX6_begin 2 0 [.ref (rh iTT), .int xa] σ (f_TT_begin xa σ) := by
  refine CV.of rfl (Nat.le_of_ble_eq_true rfl) ?_
  intro p9 e s m args below meth c A Q X hend
  refine v_lv (lv' := [(0, .ref (rh iTT)), (1, .int xa)]) [0, 1] rfl ?_
  refine v_aload_n X 0 dX6_begin_0 rfl rfl ?_
  refine v_iload_n X 1 dX6_begin_1 rfl rfl ?_
  refine v_put (i := iTT) (k := 3) (x := xa) (ty := .int) X (lt_TT ) (sh_TT ) rfl in_TT (by decide) tyX6 tyX6_ok nX6 wf_TT_22 rfl rfl rfl rfl rfl (fun _ => Nat.le_of_ble_eq_true rfl) (fun _ _ => rfl) dX6_begin_2 ?_
  refine v_aload_n X 0 dX6_begin_5 rfl rfl ?_
  refine v_aload_n X 0 dX6_begin_6 rfl rfl ?_
  refine v_getR (j := iTL) (i := iTT) (k := 1) X (lt_TT ) (sh_TT ) rfl in_TT (by decide) wf_TT_15 rfl (fun _ => rfl) dX6_begin_7 ?_
  refine v_iload_n X 1 dX6_begin_10 rfl rfl ?_
  have hv11 : vp_in xa 6 := hw
  refine v_iald (i := iTL) (t0 := 0) X (lt_TL ) (sh_TL ) rfl hv11 dX6_begin_11 ?_
  refine v_put (i := iTT) (k := 4) (x := ((up σ iTT 3 xa) iTL (xa).toNatClampNeg)) (ty := .int) X (lt_TT ) (sh_TT ) rfl in_TT (by decide) tyX6 tyX6_ok nX6 wf_TT_25 rfl rfl rfl rfl rfl (fun _ => Nat.le_of_ble_eq_true rfl) (fun _ _ => rfl) dX6_begin_12 ?_
  refine v_aload_n X 0 dX6_begin_15 rfl rfl ?_
  refine v_dup X dX6_begin_16 rfl ?_
  refine v_getI (i := iTT) (k := 5) X (lt_TT ) (sh_TT ) rfl in_TT (by decide) wf_TT_28 rfl (fun _ => rfl) dX6_begin_17 ?_
  refine v_iconst (v := 1) X dX6_begin_20 (by decide) ?_
  refine v_iadd X dX6_begin_21 ?_
  refine v_put (i := iTT) (k := 5) (x := (((up (up σ iTT 3 xa) iTT 4 ((up σ iTT 3 xa) iTL (xa).toNatClampNeg)) iTT 5) + 1)) (ty := .int) X (lt_TT ) (sh_TT ) rfl in_TT (by decide) tyX6 tyX6_ok nX6 wf_TT_28 rfl rfl rfl rfl rfl (fun _ => Nat.le_of_ble_eq_true rfl) (fun _ _ => rfl) dX6_begin_22 ?_
  have e9 : f_TT_begin xa σ = (up (up (up σ iTT 3 xa) iTT 4 ((up σ iTT 3 xa) iTL (xa).toNatClampNeg)) iTT 5 (((up (up σ iTT 3 xa) iTT 4 ((up σ iTT 3 xa) iTL (xa).toNatClampNeg)) iTT 5) + 1)) := by simp only [f_TT_begin]
  exact v_endV hend dX6_begin_25 e9
theorem I_TT_begin (xa : Int32) {σ : St} (hI : Ic σ) (hw : vp_in xa 6) : Ic (f_TT_begin xa σ) := by
  unfold f_TT_begin
  exact Ic.upTT (Ic.upTT (Ic.cur hI hw) (by decide)) (by decide)
def f_TT_endsWindow (σ : St) : Int32 × St :=
  (if ((up σ iTT 4 ((σ iTT 4) - 1)) iTT 4) ≤ 0 then (1, (f_TT_begin ((if ((up σ iTT 4 ((σ iTT 4) - 1)) iTT 2) ≤ (((up σ iTT 4 ((σ iTT 4) - 1)) iTT 3) + 1) then 0 else (((up σ iTT 4 ((σ iTT 4) - 1)) iTT 3) + 1)) : Int32) (up σ iTT 4 ((σ iTT 4) - 1)))) else (0, (up σ iTT 4 ((σ iTT 4) - 1))))
theorem z_TT_endsWindow (σ : St) : (f_TT_endsWindow σ).1 = 0 ∨ (f_TT_endsWindow σ).1 = 1 := by
  unfold f_TT_endsWindow
  repeat' first | exact Or.inl rfl | exact Or.inr rfl | apply z_ite | split
set_option maxHeartbeats 4000000 in
set_option maxRecDepth 100000 in
theorem c_TT_endsWindow  (σ : St) (hI : Ic σ) : CI l D (tyL cA) rh (rcW rh cA) NW yX6_endsWindow cX6_endsWindow 1 .boolean 1 [.ref (rh iTT)] σ (f_TT_endsWindow σ).1 (f_TT_endsWindow σ).2 := by
  refine CI.of rfl (Nat.le_of_ble_eq_true rfl) (zN (z_TT_endsWindow ..)) ?_
  intro p9 e s m args below meth c A Q X hend
  refine v_lv (lv' := [(0, .ref (rh iTT))]) [0] rfl ?_
  refine v_aload_n X 0 dX6_endsWindow_0 rfl rfl ?_
  refine v_dup X dX6_endsWindow_1 rfl ?_
  refine v_getI (i := iTT) (k := 4) X (lt_TT ) (sh_TT ) rfl in_TT (by decide) wf_TT_25 rfl (fun _ => rfl) dX6_endsWindow_2 ?_
  refine v_iconst (v := 1) X dX6_endsWindow_5 (by decide) ?_
  refine v_isub X dX6_endsWindow_6 ?_
  refine v_put (i := iTT) (k := 4) (x := ((σ iTT 4) - 1)) (ty := .int) X (lt_TT ) (sh_TT ) rfl in_TT (by decide) tyX6 tyX6_ok nX6 wf_TT_25 rfl rfl rfl rfl rfl (fun _ => Nat.le_of_ble_eq_true rfl) (fun _ _ => rfl) dX6_endsWindow_7 ?_
  refine v_aload_n X 0 dX6_endsWindow_10 rfl rfl ?_
  refine v_getI (i := iTT) (k := 4) X (lt_TT ) (sh_TT ) rfl in_TT (by decide) wf_TT_25 rfl (fun _ => rfl) dX6_endsWindow_11 ?_
  refine v_if_le X 19 dX6_endsWindow_14 (by decide) (fun h14 => ?_) (fun h14 => ?_)
  ·
    refine v_aload_n X 0 dX6_endsWindow_19 rfl rfl ?_
    refine v_aload_n X 0 dX6_endsWindow_20 rfl rfl ?_
    refine v_getI (i := iTT) (k := 3) X (lt_TT ) (sh_TT ) rfl in_TT (by decide) wf_TT_22 rfl (fun _ => rfl) dX6_endsWindow_21 ?_
    refine v_iconst (v := 1) X dX6_endsWindow_24 (by decide) ?_
    refine v_iadd X dX6_endsWindow_25 ?_
    refine v_aload_n X 0 dX6_endsWindow_26 rfl rfl ?_
    refine v_getI (i := iTT) (k := 2) X (lt_TT ) (sh_TT ) rfl in_TT (by decide) wf_TT_18 rfl (fun _ => rfl) dX6_endsWindow_27 ?_
    refine v_suff (pc2 := 43) (lv2 := [(0, .ref (rh iTT))]) (st2 := [.int ((if ((up σ iTT 4 ((σ iTT 4) - 1)) iTT 2) ≤ (((up σ iTT 4 ((σ iTT 4) - 1)) iTT 3) + 1) then 0 else (((up σ iTT 4 ((σ iTT 4) - 1)) iTT 3) + 1)) : Int32), .ref (rh iTT)]) (σ2 := (up σ iTT 4 ((σ iTT 4) - 1))) ?_ (fun J30 => ?_)
    rotate_left
    ·
      refine v_icmp_ge X 42 dX6_endsWindow_30 (by decide) (fun h30 => ?_) (fun h30 => ?_)
      ·
        refine v_iconst (v := 0) X dX6_endsWindow_42 (by decide) ?_
        have e9 : (((if ((up σ iTT 4 ((σ iTT 4) - 1)) iTT 2) ≤ (((up σ iTT 4 ((σ iTT 4) - 1)) iTT 3) + 1) then 0 else (((up σ iTT 4 ((σ iTT 4) - 1)) iTT 3) + 1)) : Int32) : Int32) = 0 := by simp only [if_pos h30]
        rw [e9] at J30
        exact J30
      ·
        refine v_aload_n X 0 dX6_endsWindow_33 rfl rfl ?_
        refine v_getI (i := iTT) (k := 3) X (lt_TT ) (sh_TT ) rfl in_TT (by decide) wf_TT_22 rfl (fun _ => rfl) dX6_endsWindow_34 ?_
        refine v_iconst (v := 1) X dX6_endsWindow_37 (by decide) ?_
        refine v_iadd X dX6_endsWindow_38 ?_
        refine v_goto (tgt := 43) X dX6_endsWindow_39 (by decide) ?_
        have e9 : (((if ((up σ iTT 4 ((σ iTT 4) - 1)) iTT 2) ≤ (((up σ iTT 4 ((σ iTT 4) - 1)) iTT 3) + 1) then 0 else (((up σ iTT 4 ((σ iTT 4) - 1)) iTT 3) + 1)) : Int32) : Int32) = (((up σ iTT 4 ((σ iTT 4) - 1)) iTT 3) + 1) := by simp only [if_neg h30]
        rw [e9] at J30
        exact J30
    refine v_callV_CV (rest := []) X [.int ((if ((up σ iTT 4 ((σ iTT 4) - 1)) iTT 2) ≤ (((up σ iTT 4 ((σ iTT 4) - 1)) iTT 3) + 1) then 0 else (((up σ iTT 4 ((σ iTT 4) - 1)) iTT 3) + 1)) : Int32)] (c_TT_begin ((if ((up σ iTT 4 ((σ iTT 4) - 1)) iTT 2) ≤ (((up σ iTT 4 ((σ iTT 4) - 1)) iTT 3) + 1) then 0 else (((up σ iTT 4 ((σ iTT 4) - 1)) iTT 3) + 1)) : Int32) (up σ iTT 4 ((σ iTT 4) - 1)) (ew_in (Ic.upTT hI (by decide)))) mf_TT_begin wi_TT_begin wl_TT_begin (lt_TT ) (sh_TT ) rfl wm_TT_31 rfl ⟨by decide, by decide⟩ (Nat.le_of_ble_eq_true rfl) ⟨by decide, by decide⟩ dX6_endsWindow_43 ?_
    refine v_iconst (v := 1) X dX6_endsWindow_46 (by decide) ?_
    have e9 : f_TT_endsWindow σ = (1, (f_TT_begin ((if ((up σ iTT 4 ((σ iTT 4) - 1)) iTT 2) ≤ (((up σ iTT 4 ((σ iTT 4) - 1)) iTT 3) + 1) then 0 else (((up σ iTT 4 ((σ iTT 4) - 1)) iTT 3) + 1)) : Int32) (up σ iTT 4 ((σ iTT 4) - 1)))) := by simp only [f_TT_endsWindow, if_pos h14]
    exact v_endI hend dX6_endsWindow_47 (by rw [e9]) (by rw [e9])
  ·
    refine v_iconst (v := 0) X dX6_endsWindow_17 (by decide) ?_
    have e9 : f_TT_endsWindow σ = (0, (up σ iTT 4 ((σ iTT 4) - 1))) := by simp only [f_TT_endsWindow, if_neg h14]
    exact v_endI hend dX6_endsWindow_18 (by rw [e9]) (by rw [e9])
theorem I_TT_endsWindow  {σ : St} (hI : Ic σ) : Ic (f_TT_endsWindow σ).2 := by
  unfold f_TT_endsWindow
  exact (ic_ite2 (fun _ => (I_TT_begin ((if ((up σ iTT 4 ((σ iTT 4) - 1)) iTT 2) ≤ (((up σ iTT 4 ((σ iTT 4) - 1)) iTT 3) + 1) then 0 else (((up σ iTT 4 ((σ iTT 4) - 1)) iTT 3) + 1)) : Int32) (Ic.upTT hI (by decide)) (ew_in (Ic.upTT hI (by decide))))) (fun _ => (Ic.upTT hI (by decide))))
def f_TT_start (σ : St) : St :=
  (f_TT_begin 0 (up σ iTT 5 0))
set_option maxHeartbeats 4000000 in
set_option maxRecDepth 100000 in
theorem c_TT_start  (σ : St) : CV l D (tyL cA) rh (rcW rh cA) NW yX6_start cX6_start 1 1 [.ref (rh iTT)] σ (f_TT_start σ) := by
  refine CV.of rfl (Nat.le_of_ble_eq_true rfl) ?_
  intro p9 e s m args below meth c A Q X hend
  refine v_lv (lv' := [(0, .ref (rh iTT))]) [0] rfl ?_
  refine v_aload_n X 0 dX6_start_0 rfl rfl ?_
  refine v_iconst (v := 0) X dX6_start_1 (by decide) ?_
  refine v_put (i := iTT) (k := 5) (x := 0) (ty := .int) X (lt_TT ) (sh_TT ) rfl in_TT (by decide) tyX6 tyX6_ok nX6 wf_TT_28 rfl rfl rfl rfl rfl (fun _ => Nat.le_of_ble_eq_true rfl) (fun _ _ => rfl) dX6_start_2 ?_
  refine v_aload_n X 0 dX6_start_5 rfl rfl ?_
  refine v_iconst (v := 0) X dX6_start_6 (by decide) ?_
  refine v_callV_CV (rest := []) X [.int 0] (c_TT_begin 0 (up σ iTT 5 0) (vin_mk (by decide) (by decide))) mf_TT_begin wi_TT_begin wl_TT_begin (lt_TT ) (sh_TT ) rfl wm_TT_31 rfl ⟨by decide, by decide⟩ (Nat.le_of_ble_eq_true rfl) ⟨by decide, by decide⟩ dX6_start_7 ?_
  have e9 : f_TT_start σ = (f_TT_begin 0 (up σ iTT 5 0)) := by simp only [f_TT_start]
  exact v_endV hend dX6_start_10 e9
theorem I_TT_start  {σ : St} (hI : Ic σ) : Ic (f_TT_start σ) := by
  unfold f_TT_start
  exact (I_TT_begin 0 (Ic.upTT hI (by decide)) (vin_mk (by decide) (by decide)))
end CLS
end
section
section CLS
variable {l : Launch} {D : va_G} {rh : Nat → Nat} {cA : Nat → ClassId}
def f_PT_overlaps (p : Nat) (xa : Int32) (xb : Int32) (σ : St) : Int32 :=
  ((if (σ (iP p) 2) ≤ 0 then 0 else (if xb ≤ 0 then 0 else (if (xa + xb) ≤ (σ (iP p) 1) then 0 else (if ((σ (iP p) 1) + (σ (iP p) 2)) ≤ xa then 0 else 1)))) : Int32)
theorem z_PT_overlaps (p : Nat) (xa : Int32) (xb : Int32) (σ : St) : (f_PT_overlaps p xa xb σ) = 0 ∨ (f_PT_overlaps p xa xb σ) = 1 := by
  unfold f_PT_overlaps
  repeat' first | exact Or.inl rfl | exact Or.inr rfl | apply z_ite | split
set_option maxHeartbeats 4000000 in
set_option maxRecDepth 100000 in
theorem c_PT_overlaps {p : Nat} (hp : p < 4) (xa : Int32) (xb : Int32) (σ : St) : CI l D (tyL cA) rh (rcW rh cA) NW yX3_overlaps cX3_overlaps 3 .boolean 0 [.ref (rh (iP p)), .int xa, .int xb] σ (f_PT_overlaps p xa xb σ) σ := by
  refine CI.of rfl (Nat.le_of_ble_eq_true rfl) (zN (z_PT_overlaps ..)) ?_
  intro p9 e s m args below meth c A Q X hend
  refine v_lv (lv' := [(0, .ref (rh (iP p))), (1, .int xa), (2, .int xb)]) [0, 1, 2] rfl ?_
  refine v_aload_n X 0 dX3_overlaps_0 rfl rfl ?_
  refine v_getI (i := (iP p)) (k := 2) X (lt_PT hp) (sh_PT hp) rfl in_PT (by decide) wf_PT_18 rfl (fun _ => rfl) dX3_overlaps_1 ?_
  refine v_suff (pc2 := 39) (lv2 := [(0, .ref (rh (iP p))), (1, .int xa), (2, .int xb)]) (st2 := [.int ((if (σ (iP p) 2) ≤ 0 then 0 else (if xb ≤ 0 then 0 else (if (xa + xb) ≤ (σ (iP p) 1) then 0 else (if ((σ (iP p) 1) + (σ (iP p) 2)) ≤ xa then 0 else 1)))) : Int32)]) (σ2 := σ) ?_ (fun J4 => ?_)
  rotate_left
  ·
    refine v_if_le X 38 dX3_overlaps_4 (by decide) (fun h4 => ?_) (fun h4 => ?_)
    ·
      refine v_iconst (v := 0) X dX3_overlaps_38 (by decide) ?_
      have e9 : (((if (σ (iP p) 2) ≤ 0 then 0 else (if xb ≤ 0 then 0 else (if (xa + xb) ≤ (σ (iP p) 1) then 0 else (if ((σ (iP p) 1) + (σ (iP p) 2)) ≤ xa then 0 else 1)))) : Int32) : Int32) = 0 := by simp only [if_pos h4]
      rw [e9] at J4
      exact J4
    ·
      refine v_iload_n X 2 dX3_overlaps_7 rfl rfl ?_
      refine v_if_le X 38 dX3_overlaps_8 (by decide) (fun h8 => ?_) (fun h8 => ?_)
      ·
        refine v_iconst (v := 0) X dX3_overlaps_38 (by decide) ?_
        have e9 : (((if (σ (iP p) 2) ≤ 0 then 0 else (if xb ≤ 0 then 0 else (if (xa + xb) ≤ (σ (iP p) 1) then 0 else (if ((σ (iP p) 1) + (σ (iP p) 2)) ≤ xa then 0 else 1)))) : Int32) : Int32) = 0 := by simp only [if_neg h4, if_pos h8]
        rw [e9] at J4
        exact J4
      ·
        refine v_aload_n X 0 dX3_overlaps_11 rfl rfl ?_
        refine v_getI (i := (iP p)) (k := 1) X (lt_PT hp) (sh_PT hp) rfl in_PT (by decide) wf_PT_15 rfl (fun _ => rfl) dX3_overlaps_12 ?_
        refine v_iload_n X 1 dX3_overlaps_15 rfl rfl ?_
        refine v_iload_n X 2 dX3_overlaps_16 rfl rfl ?_
        refine v_iadd X dX3_overlaps_17 ?_
        refine v_icmp_ge X 38 dX3_overlaps_18 (by decide) (fun h18 => ?_) (fun h18 => ?_)
        ·
          refine v_iconst (v := 0) X dX3_overlaps_38 (by decide) ?_
          have e9 : (((if (σ (iP p) 2) ≤ 0 then 0 else (if xb ≤ 0 then 0 else (if (xa + xb) ≤ (σ (iP p) 1) then 0 else (if ((σ (iP p) 1) + (σ (iP p) 2)) ≤ xa then 0 else 1)))) : Int32) : Int32) = 0 := by simp only [if_neg h4, if_neg h8, if_pos h18]
          rw [e9] at J4
          exact J4
        ·
          refine v_iload_n X 1 dX3_overlaps_21 rfl rfl ?_
          refine v_aload_n X 0 dX3_overlaps_22 rfl rfl ?_
          refine v_getI (i := (iP p)) (k := 1) X (lt_PT hp) (sh_PT hp) rfl in_PT (by decide) wf_PT_15 rfl (fun _ => rfl) dX3_overlaps_23 ?_
          refine v_aload_n X 0 dX3_overlaps_26 rfl rfl ?_
          refine v_getI (i := (iP p)) (k := 2) X (lt_PT hp) (sh_PT hp) rfl in_PT (by decide) wf_PT_18 rfl (fun _ => rfl) dX3_overlaps_27 ?_
          refine v_iadd X dX3_overlaps_30 ?_
          refine v_icmp_ge X 38 dX3_overlaps_31 (by decide) (fun h31 => ?_) (fun h31 => ?_)
          ·
            refine v_iconst (v := 0) X dX3_overlaps_38 (by decide) ?_
            have e9 : (((if (σ (iP p) 2) ≤ 0 then 0 else (if xb ≤ 0 then 0 else (if (xa + xb) ≤ (σ (iP p) 1) then 0 else (if ((σ (iP p) 1) + (σ (iP p) 2)) ≤ xa then 0 else 1)))) : Int32) : Int32) = 0 := by simp only [if_neg h4, if_neg h8, if_neg h18, if_pos h31]
            rw [e9] at J4
            exact J4
          ·
            refine v_iconst (v := 1) X dX3_overlaps_34 (by decide) ?_
            refine v_goto (tgt := 39) X dX3_overlaps_35 (by decide) ?_
            have e9 : (((if (σ (iP p) 2) ≤ 0 then 0 else (if xb ≤ 0 then 0 else (if (xa + xb) ≤ (σ (iP p) 1) then 0 else (if ((σ (iP p) 1) + (σ (iP p) 2)) ≤ xa then 0 else 1)))) : Int32) : Int32) = 1 := by simp only [if_neg h4, if_neg h8, if_neg h18, if_neg h31]
            rw [e9] at J4
            exact J4
  have e9 : f_PT_overlaps p xa xb σ = ((if (σ (iP p) 2) ≤ 0 then 0 else (if xb ≤ 0 then 0 else (if (xa + xb) ≤ (σ (iP p) 1) then 0 else (if ((σ (iP p) 1) + (σ (iP p) 2)) ≤ xa then 0 else 1)))) : Int32) := by simp only [f_PT_overlaps]
  exact v_endI hend dX3_overlaps_39 e9 rfl
def f_PT_holds (p : Nat) (xa : Int32) (σ : St) : Int32 :=
  (f_SM_within xa 0 ((4 * (σ (iP p) 2)) - 4))
theorem z_PT_holds (p : Nat) (xa : Int32) (σ : St) : (f_PT_holds p xa σ) = 0 ∨ (f_PT_holds p xa σ) = 1 := by
  unfold f_PT_holds
  repeat' first | exact Or.inl rfl | exact Or.inr rfl | exact z_SM_within .. | apply z_ite | split
set_option maxHeartbeats 4000000 in
set_option maxRecDepth 100000 in
theorem c_PT_holds {p : Nat} (hp : p < 4) (xa : Int32) (σ : St) : CI l D (tyL cA) rh (rcW rh cA) NW yX3_holds cX3_holds 2 .boolean 1 [.ref (rh (iP p)), .int xa] σ (f_PT_holds p xa σ) σ := by
  refine CI.of rfl (Nat.le_of_ble_eq_true rfl) (zN (z_PT_holds ..)) ?_
  intro p9 e s m args below meth c A Q X hend
  refine v_lv (lv' := [(0, .ref (rh (iP p))), (1, .int xa)]) [0, 1] rfl ?_
  refine v_iload_n X 1 dX3_holds_0 rfl rfl ?_
  refine v_iconst (v := 0) X dX3_holds_1 (by decide) ?_
  refine v_iconst (v := 4) X dX3_holds_2 (by decide) ?_
  refine v_aload_n X 0 dX3_holds_3 rfl rfl ?_
  refine v_getI (i := (iP p)) (k := 2) X (lt_PT hp) (sh_PT hp) rfl in_PT (by decide) wf_PT_18 rfl (fun _ => rfl) dX3_holds_4 ?_
  refine v_imul X dX3_holds_7 ?_
  refine v_iconst (v := 4) X dX3_holds_8 (by decide) ?_
  refine v_isub X dX3_holds_9 ?_
  refine v_callSN_CI (rest := []) X [.int xa, .int 0, .int ((4 * (σ (iP p) 2)) - 4)] (c_SM_within xa 0 ((4 * (σ (iP p) 2)) - 4) σ ) mf_SM_within ws_SM_within wn_PT_73 rfl ⟨by decide, by decide⟩ (Nat.le_of_ble_eq_true rfl) ⟨by decide, by decide⟩ dX3_holds_10 ?_
  have e9 : f_PT_holds p xa σ = (f_SM_within xa 0 ((4 * (σ (iP p) 2)) - 4)) := by simp only [f_PT_holds]
  exact v_endI hend dX3_holds_13 e9 rfl
def f_PT_noteBegun (p : Nat) (σ : St) : St :=
  (up σ (iP p) 13 ((σ (iP p) 13) + 1))
set_option maxHeartbeats 4000000 in
set_option maxRecDepth 100000 in
theorem c_PT_noteBegun {p : Nat} (hp : p < 4) (σ : St) : CV l D (tyL cA) rh (rcW rh cA) NW yX3_noteBegun cX3_noteBegun 1 0 [.ref (rh (iP p))] σ (f_PT_noteBegun p σ) := by
  refine CV.of rfl (Nat.le_of_ble_eq_true rfl) ?_
  intro p9 e s m args below meth c A Q X hend
  refine v_lv (lv' := [(0, .ref (rh (iP p)))]) [0] rfl ?_
  refine v_aload_n X 0 dX3_noteBegun_0 rfl rfl ?_
  refine v_dup X dX3_noteBegun_1 rfl ?_
  refine v_getI (i := (iP p)) (k := 13) X (lt_PT hp) (sh_PT hp) rfl in_PT (by decide) wf_PT_53 rfl (fun _ => rfl) dX3_noteBegun_2 ?_
  refine v_iconst (v := 1) X dX3_noteBegun_5 (by decide) ?_
  refine v_iadd X dX3_noteBegun_6 ?_
  refine v_put (i := (iP p)) (k := 13) (x := ((σ (iP p) 13) + 1)) (ty := .int) X (lt_PT hp) (sh_PT hp) rfl in_PT (by decide) tyX3 tyX3_ok nX3 wf_PT_53 rfl rfl rfl rfl rfl (fun _ => Nat.le_of_ble_eq_true rfl) (fun _ _ => rfl) dX3_noteBegun_7 ?_
  have e9 : f_PT_noteBegun p σ = (up σ (iP p) 13 ((σ (iP p) 13) + 1)) := by simp only [f_PT_noteBegun]
  exact v_endV hend dX3_noteBegun_10 e9
theorem I_PT_noteBegun (p : Nat) {σ : St} (hI : Ic σ) : Ic (f_PT_noteBegun p σ) := by
  unfold f_PT_noteBegun
  exact (Ic.upPT hI (by decide))
def f_PT_sinceBooted (p : Nat) (xa : Int32) (σ : St) : Int32 :=
  (if xa = 0 then ((if (σ (iP p) 6) = 0 then 0 else 1) : Int32) else (if xa = 1 then (σ (iP p) 10) else (if xa = 2 then (σ (iP p) 11) else (if xa = 3 then (σ (iP p) 12) else (if xa = 4 then (σ (iP p) 13) else (σ (iP p) 4))))))
set_option maxHeartbeats 4000000 in
set_option maxRecDepth 100000 in
theorem c_PT_sinceBooted {p : Nat} (hp : p < 4) (xa : Int32) (σ : St) : CI l D (tyL cA) rh (rcW rh cA) NW yX3_sinceBooted cX3_sinceBooted 2 .int 0 [.ref (rh (iP p)), .int xa] σ (f_PT_sinceBooted p xa σ) σ := by
  refine CI.of rfl (Nat.le_of_ble_eq_true rfl) rfl ?_
  intro p9 e s m args below meth c A Q X hend
  refine v_lv (lv' := [(0, .ref (rh (iP p))), (1, .int xa)]) [0, 1] rfl ?_
  refine v_iload_n X 1 dX3_sinceBooted_0 rfl rfl ?_
  by_cases h1_0 : xa = 0
  ·
    refine v_tswI (off := 35) X 0 36 h1_0 dX3_sinceBooted_1 (by decide) (by decide) ?_
    refine v_aload_n X 0 dX3_sinceBooted_36 rfl rfl ?_
    refine v_getI (i := (iP p)) (k := 6) X (lt_PT hp) (sh_PT hp) rfl in_PT (by decide) wf_PT_30 rfl (fun _ => rfl) dX3_sinceBooted_37 ?_
    refine v_suff (pc2 := 48) (lv2 := [(0, .ref (rh (iP p))), (1, .int xa)]) (st2 := [.int ((if (σ (iP p) 6) = 0 then 0 else 1) : Int32)]) (σ2 := σ) ?_ (fun J40 => ?_)
    rotate_left
    ·
      refine v_if_eq X 47 dX3_sinceBooted_40 (by decide) (fun h40 => ?_) (fun h40 => ?_)
      ·
        refine v_iconst (v := 0) X dX3_sinceBooted_47 (by decide) ?_
        have e9 : (((if (σ (iP p) 6) = 0 then 0 else 1) : Int32) : Int32) = 0 := by simp only [if_pos h40]
        rw [e9] at J40
        exact J40
      ·
        refine v_iconst (v := 1) X dX3_sinceBooted_43 (by decide) ?_
        refine v_goto (tgt := 48) X dX3_sinceBooted_44 (by decide) ?_
        have e9 : (((if (σ (iP p) 6) = 0 then 0 else 1) : Int32) : Int32) = 1 := by simp only [if_neg h40]
        rw [e9] at J40
        exact J40
    have e9 : f_PT_sinceBooted p xa σ = ((if (σ (iP p) 6) = 0 then 0 else 1) : Int32) := by simp only [f_PT_sinceBooted, if_pos h1_0]
    exact v_endI hend dX3_sinceBooted_48 e9 rfl
  by_cases h1_1 : xa = 1
  ·
    refine v_tswI (off := 48) X 1 49 h1_1 dX3_sinceBooted_1 (by decide) (by decide) ?_
    refine v_aload_n X 0 dX3_sinceBooted_49 rfl rfl ?_
    refine v_getI (i := (iP p)) (k := 10) X (lt_PT hp) (sh_PT hp) rfl in_PT (by decide) wf_PT_44 rfl (fun _ => rfl) dX3_sinceBooted_50 ?_
    have e9 : f_PT_sinceBooted p xa σ = (σ (iP p) 10) := by simp only [f_PT_sinceBooted, if_neg h1_0, if_pos h1_1]
    exact v_endI hend dX3_sinceBooted_53 e9 rfl
  by_cases h1_2 : xa = 2
  ·
    refine v_tswI (off := 53) X 2 54 h1_2 dX3_sinceBooted_1 (by decide) (by decide) ?_
    refine v_aload_n X 0 dX3_sinceBooted_54 rfl rfl ?_
    refine v_getI (i := (iP p)) (k := 11) X (lt_PT hp) (sh_PT hp) rfl in_PT (by decide) wf_PT_47 rfl (fun _ => rfl) dX3_sinceBooted_55 ?_
    have e9 : f_PT_sinceBooted p xa σ = (σ (iP p) 11) := by simp only [f_PT_sinceBooted, if_neg h1_0, if_neg h1_1, if_pos h1_2]
    exact v_endI hend dX3_sinceBooted_58 e9 rfl
  by_cases h1_3 : xa = 3
  ·
    refine v_tswI (off := 58) X 3 59 h1_3 dX3_sinceBooted_1 (by decide) (by decide) ?_
    refine v_aload_n X 0 dX3_sinceBooted_59 rfl rfl ?_
    refine v_getI (i := (iP p)) (k := 12) X (lt_PT hp) (sh_PT hp) rfl in_PT (by decide) wf_PT_50 rfl (fun _ => rfl) dX3_sinceBooted_60 ?_
    have e9 : f_PT_sinceBooted p xa σ = (σ (iP p) 12) := by simp only [f_PT_sinceBooted, if_neg h1_0, if_neg h1_1, if_neg h1_2, if_pos h1_3]
    exact v_endI hend dX3_sinceBooted_63 e9 rfl
  by_cases h1_4 : xa = 4
  ·
    refine v_tswI (off := 63) X 4 64 h1_4 dX3_sinceBooted_1 (by decide) (by decide) ?_
    refine v_aload_n X 0 dX3_sinceBooted_64 rfl rfl ?_
    refine v_getI (i := (iP p)) (k := 13) X (lt_PT hp) (sh_PT hp) rfl in_PT (by decide) wf_PT_53 rfl (fun _ => rfl) dX3_sinceBooted_65 ?_
    have e9 : f_PT_sinceBooted p xa σ = (σ (iP p) 13) := by simp only [f_PT_sinceBooted, if_neg h1_0, if_neg h1_1, if_neg h1_2, if_neg h1_3, if_pos h1_4]
    exact v_endI hend dX3_sinceBooted_68 e9 rfl
  refine v_tswO X 69 dX3_sinceBooted_1 (by have g0 := lv_neT (a := 0) h1_0 (by decide); have g1 := lv_neT (a := 1) h1_1 (by decide); have g2 := lv_neT (a := 2) h1_2 (by decide); have g3 := lv_neT (a := 3) h1_3 (by decide); have g4 := lv_neT (a := 4) h1_4 (by decide); omega) (by decide) ?_
  refine v_aload_n X 0 dX3_sinceBooted_69 rfl rfl ?_
  refine v_getI (i := (iP p)) (k := 4) X (lt_PT hp) (sh_PT hp) rfl in_PT (by decide) wf_PT_24 rfl (fun _ => rfl) dX3_sinceBooted_70 ?_
  have e9 : f_PT_sinceBooted p xa σ = (σ (iP p) 4) := by simp only [f_PT_sinceBooted, if_neg h1_0, if_neg h1_1, if_neg h1_2, if_neg h1_3, if_neg h1_4]
  exact v_endI hend dX3_sinceBooted_73 e9 rfl
def f_PT_get (p : Nat) (xa : Int32) (σ : St) : Int32 :=
  ((if xa ≤ 0 then 0 else (if 16 ≤ xa then 0 else (σ (iR p) (xa).toNatClampNeg))) : Int32)
set_option maxHeartbeats 4000000 in
set_option maxRecDepth 100000 in
theorem c_PT_get {p : Nat} (hp : p < 4) (xa : Int32) (σ : St) : CI l D (tyL cA) rh (rcW rh cA) NW yX3_get cX3_get 2 .int 0 [.ref (rh (iP p)), .int xa] σ (f_PT_get p xa σ) σ := by
  refine CI.of rfl (Nat.le_of_ble_eq_true rfl) rfl ?_
  intro p9 e s m args below meth c A Q X hend
  refine v_lv (lv' := [(0, .ref (rh (iP p))), (1, .int xa)]) [0, 1] rfl ?_
  refine v_iload_n X 1 dX3_get_0 rfl rfl ?_
  refine v_suff (pc2 := 20) (lv2 := [(0, .ref (rh (iP p))), (1, .int xa)]) (st2 := [.int ((if xa ≤ 0 then 0 else (if 16 ≤ xa then 0 else (σ (iR p) (xa).toNatClampNeg))) : Int32)]) (σ2 := σ) ?_ (fun J1 => ?_)
  rotate_left
  ·
    refine v_if_le X 19 dX3_get_1 (by decide) (fun h1 => ?_) (fun h1 => ?_)
    ·
      refine v_iconst (v := 0) X dX3_get_19 (by decide) ?_
      have e9 : (((if xa ≤ 0 then 0 else (if 16 ≤ xa then 0 else (σ (iR p) (xa).toNatClampNeg))) : Int32) : Int32) = 0 := by simp only [if_pos h1]
      rw [e9] at J1
      exact J1
    ·
      refine v_iload_n X 1 dX3_get_4 rfl rfl ?_
      refine v_bipush (v := 16) X dX3_get_5 (by decide) ?_
      refine v_icmp_ge X 19 dX3_get_7 (by decide) (fun h7 => ?_) (fun h7 => ?_)
      ·
        refine v_iconst (v := 0) X dX3_get_19 (by decide) ?_
        have e9 : (((if xa ≤ 0 then 0 else (if 16 ≤ xa then 0 else (σ (iR p) (xa).toNatClampNeg))) : Int32) : Int32) = 0 := by simp only [if_neg h1, if_pos h7]
        rw [e9] at J1
        exact J1
      ·
        refine v_aload_n X 0 dX3_get_10 rfl rfl ?_
        refine v_getR (j := (iR p)) (i := (iP p)) (k := 8) X (lt_PT hp) (sh_PT hp) rfl in_PT (by decide) wf_PT_37 rfl (fun _ => rfl) dX3_get_11 ?_
        refine v_iload_n X 1 dX3_get_14 rfl rfl ?_
        have hv15 : vp_in xa 16 := (vin_p 16 (by decide) h1 h7)
        refine v_iald (i := (iR p)) (t0 := 0) X (lt_RG hp) (sh_RG hp) rfl hv15 dX3_get_15 ?_
        refine v_goto (tgt := 20) X dX3_get_16 (by decide) ?_
        have e9 : (((if xa ≤ 0 then 0 else (if 16 ≤ xa then 0 else (σ (iR p) (xa).toNatClampNeg))) : Int32) : Int32) = (σ (iR p) (xa).toNatClampNeg) := by simp only [if_neg h1, if_neg h7]
        rw [e9] at J1
        exact J1
  have e9 : f_PT_get p xa σ = ((if xa ≤ 0 then 0 else (if 16 ≤ xa then 0 else (σ (iR p) (xa).toNatClampNeg))) : Int32) := by simp only [f_PT_get]
  exact v_endI hend dX3_get_20 e9 rfl
def f_PT_put (p : Nat) (xa : Int32) (xb : Int32) (σ : St) : St :=
  (if xa ≤ 0 then σ else (if 16 ≤ xa then σ else (up σ (iR p) (xa).toNatClampNeg xb)))
set_option maxHeartbeats 4000000 in
set_option maxRecDepth 100000 in
theorem c_PT_put {p : Nat} (hp : p < 4) (xa : Int32) (xb : Int32) (σ : St) : CV l D (tyL cA) rh (rcW rh cA) NW yX3_put cX3_put 3 0 [.ref (rh (iP p)), .int xa, .int xb] σ (f_PT_put p xa xb σ) := by
  refine CV.of rfl (Nat.le_of_ble_eq_true rfl) ?_
  intro p9 e s m args below meth c A Q X hend
  refine v_lv (lv' := [(0, .ref (rh (iP p))), (1, .int xa), (2, .int xb)]) [0, 1, 2] rfl ?_
  refine v_iload_n X 1 dX3_put_0 rfl rfl ?_
  refine v_if_le X 17 dX3_put_1 (by decide) (fun h1 => ?_) (fun h1 => ?_)
  ·
    have e9 : f_PT_put p xa xb σ = σ := by simp only [f_PT_put, if_pos h1]
    exact v_endV hend dX3_put_17 e9
  ·
    refine v_iload_n X 1 dX3_put_4 rfl rfl ?_
    refine v_bipush (v := 16) X dX3_put_5 (by decide) ?_
    refine v_icmp_ge X 17 dX3_put_7 (by decide) (fun h7 => ?_) (fun h7 => ?_)
    ·
      have e9 : f_PT_put p xa xb σ = σ := by simp only [f_PT_put, if_neg h1, if_pos h7]
      exact v_endV hend dX3_put_17 e9
    ·
      refine v_aload_n X 0 dX3_put_10 rfl rfl ?_
      refine v_getR (j := (iR p)) (i := (iP p)) (k := 8) X (lt_PT hp) (sh_PT hp) rfl in_PT (by decide) wf_PT_37 rfl (fun _ => rfl) dX3_put_11 ?_
      refine v_iload_n X 1 dX3_put_14 rfl rfl ?_
      refine v_iload_n X 2 dX3_put_15 rfl rfl ?_
      have hv16 : vp_in xa 16 := (vin_p 16 (by decide) h1 h7)
      refine v_iast (i := (iR p)) (t0 := 0) X (lt_RG hp) (sh_RG hp) rfl hv16 dX3_put_16 ?_
      have e9 : f_PT_put p xa xb σ = (up σ (iR p) (xa).toNatClampNeg xb) := by simp only [f_PT_put, if_neg h1, if_neg h7]
      exact v_endV hend dX3_put_17 e9
theorem I_PT_put (p : Nat) (xa : Int32) (xb : Int32) {σ : St} (hI : Ic σ) : Ic (f_PT_put p xa xb σ) := by
  unfold f_PT_put
  exact (ic_ite (fun _ => hI) (fun _ => (ic_ite (fun _ => hI) (fun _ => (Ic.upRG hI)))))
end CLS
end
section
section CLS
variable {l : Launch} {D : va_G} {rh : Nat → Nat} {cA : Nat → ClassId}
def lp_PT_measured_14 (p : Nat) : Nat → Int32 → Int32 → St → Int32
  | 0, _, _, _ => 0
  | k9 + 1, m1, i2, σ => (if (σ (iP p) 2) ≤ i2 then m1 else (lp_PT_measured_14 p k9 (f_SM_mix m1 (σ (iI p) (i2).toNatClampNeg)) (i2 + 1) σ))
set_option maxHeartbeats 4000000 in
set_option maxRecDepth 100000 in
theorem lc_PT_measured_14 {p : Nat} (hp : p < 4) {p9 : Program} {e : Env} {s : State} {m : MethodId} {args : Array Value} {below : List Frame} {meth : Method} {c : Code} {A : Nat → Prop} {Q : State → Prop} (X : Cx p9 s m args meth c D (tyL cA) A cX3_measured 3 yX3_measured.cls) : ∀ (k9 : Nat) (m1 : Int32) (i2 : Int32) (σ : St), (hI : Ic σ) → (hi : 0 ≤ i2.toInt ∧ i2.toInt ≤ (σ (iP p) 2).toInt) → ((σ (iP p) 2).toInt - i2.toInt < (k9 : Int)) → (∀ (pc : Nat) (lv : List (Nat × Value)), decode cX3_measured pc = .ok (.ireturn, 1) → Vz p9 l e (Rz 1) s m args below meth c D A 3 rh (rcW rh cA) NW 0 0 Q pc lv [.int (lp_PT_measured_14 p k9 m1 i2 σ)] σ) → Vz p9 l e (Rz 1) s m args below meth c D A 3 rh (rcW rh cA) NW 0 0 Q 14 [(0, .ref (rh (iP p))), (1, .int m1), (2, .int i2)] [] σ := by
  intro k9
  induction k9 with
  | zero =>
    intro m1 i2 σ hI hi hmu hend
    exact absurd hmu (by omega)
  | succ k9 ih =>
    intro m1 i2 σ hI hi hmu hend
    refine v_iload_n X 2 dX3_measured_14 rfl rfl ?_
    refine v_aload_n X 0 dX3_measured_15 rfl rfl ?_
    refine v_getI (i := (iP p)) (k := 2) X (lt_PT hp) (sh_PT hp) rfl in_PT (by decide) wf_PT_18 rfl (fun _ => rfl) dX3_measured_16 ?_
    refine v_icmp_ge X 39 dX3_measured_19 (by decide) (fun h19 => ?_) (fun h19 => ?_)
    ·
      refine v_iload_n X 1 dX3_measured_39 rfl rfl ?_
      have e9 : lp_PT_measured_14 p (k9 + 1) m1 i2 σ = m1 := by simp only [lp_PT_measured_14, if_pos h19]
      exact v_endI hend dX3_measured_40 e9 rfl
    ·
      refine v_iload_n X 1 dX3_measured_22 rfl rfl ?_
      refine v_aload_n X 0 dX3_measured_23 rfl rfl ?_
      refine v_getR (j := (iI p)) (i := (iP p)) (k := 9) X (lt_PT hp) (sh_PT hp) rfl in_PT (by decide) wf_PT_41 rfl (fun _ => rfl) dX3_measured_24 ?_
      refine v_iload_n X 2 dX3_measured_27 rfl rfl ?_
      have hv28 : vp_in i2 32 := (vin_mk hi.1 (by have h9 := (hI.rg hp).2.2.1; have h8 := h19; rw [ile] at h8; omega))
      refine v_iald (i := (iI p)) (t0 := 0) X (lt_IM hp) (sh_IM hp) rfl hv28 dX3_measured_28 ?_
      refine v_callSN_CI (rest := []) X [.int m1, .int (σ (iI p) (i2).toNatClampNeg)] (c_SM_mix m1 (σ (iI p) (i2).toNatClampNeg) σ ) mf_SM_mix ws_SM_mix wn_PT_69 rfl ⟨by decide, by decide⟩ (Nat.le_of_ble_eq_true rfl) ⟨by decide, by decide⟩ dX3_measured_29 ?_
      refine v_istore_n (lv' := [(1, .int (f_SM_mix m1 (σ (iI p) (i2).toNatClampNeg))), (0, .ref (rh (iP p))), (2, .int i2)]) X dX3_measured_32 rfl (by decide) rfl ?_
      refine v_iinc (v := (i2 + 1)) (lv' := [(2, .int (i2 + 1)), (1, .int (f_SM_mix m1 (σ (iI p) (i2).toNatClampNeg))), (0, .ref (rh (iP p)))]) X 2 dX3_measured_33 rfl rfl (by decide) rfl ?_
      refine v_goto (tgt := 14) X dX3_measured_36 (by decide) ?_
      have e9 : lp_PT_measured_14 p (k9 + 1) m1 i2 σ = lp_PT_measured_14 p k9 (f_SM_mix m1 (σ (iI p) (i2).toNatClampNeg)) (i2 + 1) σ := by simp only [lp_PT_measured_14, if_neg h19]
      rw [e9] at hend
      refine v_lv (lv' := [(0, .ref (rh (iP p))), (1, .int (f_SM_mix m1 (σ (iI p) (i2).toNatClampNeg))), (2, .int (i2 + 1))]) [2, 1, 0] rfl ?_
      exact ih (f_SM_mix m1 (σ (iI p) (i2).toNatClampNeg)) (i2 + 1) σ hI ⟨by have h9 := i_succ h19; omega, by have h9 := i_succ h19; have h8 := h19; rw [ile] at h8; omega⟩ (by have h9 := i_succ h19; omega) hend
def f_PT_measured (p : Nat) (σ : St) : Int32 :=
  (lp_PT_measured_14 p 33 (f_SM_mix (σ (iP p) 1) (σ (iP p) 2)) 0 σ)
set_option maxHeartbeats 4000000 in
set_option maxRecDepth 100000 in
theorem c_PT_measured {p : Nat} (hp : p < 4) (σ : St) (hI : Ic σ) : CI l D (tyL cA) rh (rcW rh cA) NW yX3_measured cX3_measured 3 .int 1 [.ref (rh (iP p))] σ (f_PT_measured p σ) σ := by
  refine CI.of rfl (Nat.le_of_ble_eq_true rfl) rfl ?_
  intro p9 e s m args below meth c A Q X hend
  refine v_lv (lv' := [(0, .ref (rh (iP p)))]) [0] rfl ?_
  refine v_aload_n X 0 dX3_measured_0 rfl rfl ?_
  refine v_getI (i := (iP p)) (k := 1) X (lt_PT hp) (sh_PT hp) rfl in_PT (by decide) wf_PT_15 rfl (fun _ => rfl) dX3_measured_1 ?_
  refine v_aload_n X 0 dX3_measured_4 rfl rfl ?_
  refine v_getI (i := (iP p)) (k := 2) X (lt_PT hp) (sh_PT hp) rfl in_PT (by decide) wf_PT_18 rfl (fun _ => rfl) dX3_measured_5 ?_
  refine v_callSN_CI (rest := []) X [.int (σ (iP p) 1), .int (σ (iP p) 2)] (c_SM_mix (σ (iP p) 1) (σ (iP p) 2) σ ) mf_SM_mix ws_SM_mix wn_PT_69 rfl ⟨by decide, by decide⟩ (Nat.le_of_ble_eq_true rfl) ⟨by decide, by decide⟩ dX3_measured_8 ?_
  refine v_istore_n (lv' := [(1, .int (f_SM_mix (σ (iP p) 1) (σ (iP p) 2))), (0, .ref (rh (iP p)))]) X dX3_measured_11 rfl (by decide) rfl ?_
  refine v_iconst (v := 0) X dX3_measured_12 (by decide) ?_
  refine v_istore_n (lv' := [(2, .int 0), (1, .int (f_SM_mix (σ (iP p) 1) (σ (iP p) 2))), (0, .ref (rh (iP p)))]) X dX3_measured_13 rfl (by decide) rfl ?_
  have e9 : f_PT_measured p σ = lp_PT_measured_14 p 33 (f_SM_mix (σ (iP p) 1) (σ (iP p) 2)) 0 σ := by simp only [f_PT_measured]
  rw [e9] at hend
  refine v_lv (lv' := [(0, .ref (rh (iP p))), (1, .int (f_SM_mix (σ (iP p) 1) (σ (iP p) 2))), (2, .int 0)]) [2, 1, 0] rfl ?_
  exact lc_PT_measured_14 hp  X 33 (f_SM_mix (σ (iP p) 1) (σ (iP p) 2)) 0 σ hI ⟨by decide, by have h9 := (hI.rg hp).2.1; have z : (0 : Int32).toInt = 0 := (by decide); omega⟩ (by have h9 := (hI.rg hp).2.2.1; have z : (0 : Int32).toInt = 0 := (by decide); omega) hend
def lp_PT_clearRegisters_7 (p : Nat) : Nat → Int32 → St → St
  | 0, _, σ => σ
  | k9 + 1, i1, σ => (if 16 ≤ i1 then σ else (lp_PT_clearRegisters_7 p k9 (i1 + 1) (up σ (iR p) (i1).toNatClampNeg 0)))
set_option maxHeartbeats 4000000 in
set_option maxRecDepth 100000 in
theorem lc_PT_clearRegisters_7 {p : Nat} (hp : p < 4) {p9 : Program} {e : Env} {s : State} {m : MethodId} {args : Array Value} {below : List Frame} {meth : Method} {c : Code} {A : Nat → Prop} {Q : State → Prop} (X : Cx p9 s m args meth c D (tyL cA) A cX3_clearRegisters 2 yX3_clearRegisters.cls) : ∀ (k9 : Nat) (i1 : Int32) (σ : St), (hi : 0 ≤ i1.toInt ∧ i1.toInt ≤ 16) → (16 - i1.toInt < (k9 : Int)) → (∀ (pc : Nat) (lv : List (Nat × Value)), decode cX3_clearRegisters pc = .ok (.return_, 1) → Vz p9 l e (Rz 0) s m args below meth c D A 2 rh (rcW rh cA) NW 0 0 Q pc lv [] (lp_PT_clearRegisters_7 p k9 i1 σ)) → Vz p9 l e (Rz 0) s m args below meth c D A 2 rh (rcW rh cA) NW 0 0 Q 7 [(0, .ref (rh (iP p))), (1, .int i1)] [] σ := by
  intro k9
  induction k9 with
  | zero =>
    intro i1 σ hi hmu hend
    exact absurd hmu (by omega)
  | succ k9 ih =>
    intro i1 σ hi hmu hend
    refine v_iload_n X 1 dX3_clearRegisters_7 rfl rfl ?_
    refine v_bipush (v := 16) X dX3_clearRegisters_8 (by decide) ?_
    refine v_icmp_ge X 26 dX3_clearRegisters_10 (by decide) (fun h10 => ?_) (fun h10 => ?_)
    ·
      have e9 : lp_PT_clearRegisters_7 p (k9 + 1) i1 σ = σ := by simp only [lp_PT_clearRegisters_7, if_pos h10]
      exact v_endV hend dX3_clearRegisters_26 e9
    ·
      refine v_aload_n X 0 dX3_clearRegisters_13 rfl rfl ?_
      refine v_getR (j := (iR p)) (i := (iP p)) (k := 8) X (lt_PT hp) (sh_PT hp) rfl in_PT (by decide) wf_PT_37 rfl (fun _ => rfl) dX3_clearRegisters_14 ?_
      refine v_iload_n X 1 dX3_clearRegisters_17 rfl rfl ?_
      refine v_iconst (v := 0) X dX3_clearRegisters_18 (by decide) ?_
      have hv19 : vp_in i1 16 := (vin_mk hi.1 (nle (by decide) h10))
      refine v_iast (i := (iR p)) (t0 := 0) X (lt_RG hp) (sh_RG hp) rfl hv19 dX3_clearRegisters_19 ?_
      generalize hg19 : (up σ (iR p) (i1).toNatClampNeg 0) = g19
      refine v_iinc (v := (i1 + 1)) (lv' := [(1, .int (i1 + 1)), (0, .ref (rh (iP p)))]) X 1 dX3_clearRegisters_20 rfl rfl (by decide) rfl ?_
      refine v_goto (tgt := 7) X dX3_clearRegisters_23 (by decide) ?_
      have e9 : lp_PT_clearRegisters_7 p (k9 + 1) i1 σ = lp_PT_clearRegisters_7 p k9 (i1 + 1) g19 := by subst hg19; simp only [lp_PT_clearRegisters_7, if_neg h10]
      rw [e9] at hend
      refine v_lv (lv' := [(0, .ref (rh (iP p))), (1, .int (i1 + 1))]) [1, 0] rfl ?_
      exact ih (i1 + 1) g19 ⟨by have h9 := i_succ h10; omega, by have h9 := i_succ h10; have h8 := h10; rw [ile] at h8; have z : (16 : Int32).toInt = 16 := (by decide); omega⟩ (by have h9 := i_succ h10; omega) hend
def f_PT_clearRegisters (p : Nat) (σ : St) : St :=
  (lp_PT_clearRegisters_7 p 17 0 (up σ (iP p) 5 0))
set_option maxHeartbeats 4000000 in
set_option maxRecDepth 100000 in
theorem c_PT_clearRegisters {p : Nat} (hp : p < 4) (σ : St) : CV l D (tyL cA) rh (rcW rh cA) NW yX3_clearRegisters cX3_clearRegisters 2 0 [.ref (rh (iP p))] σ (f_PT_clearRegisters p σ) := by
  refine CV.of rfl (Nat.le_of_ble_eq_true rfl) ?_
  intro p9 e s m args below meth c A Q X hend
  refine v_lv (lv' := [(0, .ref (rh (iP p)))]) [0] rfl ?_
  refine v_aload_n X 0 dX3_clearRegisters_0 rfl rfl ?_
  refine v_iconst (v := 0) X dX3_clearRegisters_1 (by decide) ?_
  refine v_put (i := (iP p)) (k := 5) (x := 0) (ty := .int) X (lt_PT hp) (sh_PT hp) rfl in_PT (by decide) tyX3 tyX3_ok nX3 wf_PT_27 rfl rfl rfl rfl rfl (fun _ => Nat.le_of_ble_eq_true rfl) (fun _ _ => rfl) dX3_clearRegisters_2 ?_
  generalize hg2 : (up σ (iP p) 5 0) = g2
  refine v_iconst (v := 0) X dX3_clearRegisters_5 (by decide) ?_
  refine v_istore_n (lv' := [(1, .int 0), (0, .ref (rh (iP p)))]) X dX3_clearRegisters_6 rfl (by decide) rfl ?_
  have e9 : f_PT_clearRegisters p σ = lp_PT_clearRegisters_7 p 17 0 g2 := by subst hg2; simp only [f_PT_clearRegisters]
  rw [e9] at hend
  refine v_lv (lv' := [(0, .ref (rh (iP p))), (1, .int 0)]) [1, 0] rfl ?_
  exact lc_PT_clearRegisters_7 hp  X 17 0 g2 ⟨by decide, by decide⟩ (by decide) hend
theorem Il_PT_clearRegisters (p : Nat) : ∀ (k : Nat) (i : Int32) (σ : St), Ic σ → Ic (lp_PT_clearRegisters_7 p k i σ) := by
  intro k
  induction k with
  | zero => intro i σ h; exact h
  | succ k ih =>
    intro i σ h
    simp only [lp_PT_clearRegisters_7]
    exact ic_ite (fun _ => h) (fun _ => ih _ _ (Ic.upRG h))
theorem I_PT_clearRegisters (p : Nat) {σ : St} (hI : Ic σ) : Ic (f_PT_clearRegisters p σ) := by
  unfold f_PT_clearRegisters
  exact Il_PT_clearRegisters p _ _ _ (Ic.upPT hI (by decide))
def f_PT_restart (p : Nat) (σ : St) : St :=
  (up (f_PT_clearRegisters p (upr (up σ (iP p) 12 ((σ (iP p) 12) + 1)) iWO (va_cpy ((up σ (iP p) 12 ((σ (iP p) 12) + 1)) (iI p)) ((up σ (iP p) 12 ((σ (iP p) 12) + 1)) iWO) (0 : Int32).toNatClampNeg (((up σ (iP p) 12 ((σ (iP p) 12) + 1)) (iP p) 1) : Int32).toNatClampNeg (((up σ (iP p) 12 ((σ (iP p) 12) + 1)) (iP p) 2) : Int32).toNatClampNeg))) (iP p) 7 1)
set_option maxHeartbeats 4000000 in
set_option maxRecDepth 100000 in
theorem c_PT_restart {p : Nat} (hp : p < 4) (σ : St) (hI : Ic σ) : CV l D (tyL cA) rh (rcW rh cA) NW yX3_restart cX3_restart 2 1 [.ref (rh (iP p)), .ref (rh iWO)] σ (f_PT_restart p σ) := by
  refine CV.of rfl (Nat.le_of_ble_eq_true rfl) ?_
  intro p9 e s m args below meth c A Q X hend
  refine v_lv (lv' := [(0, .ref (rh (iP p))), (1, .ref (rh iWO))]) [0, 1] rfl ?_
  refine v_aload_n X 0 dX3_restart_0 rfl rfl ?_
  refine v_dup X dX3_restart_1 rfl ?_
  refine v_getI (i := (iP p)) (k := 12) X (lt_PT hp) (sh_PT hp) rfl in_PT (by decide) wf_PT_50 rfl (fun _ => rfl) dX3_restart_2 ?_
  refine v_iconst (v := 1) X dX3_restart_5 (by decide) ?_
  refine v_iadd X dX3_restart_6 ?_
  refine v_put (i := (iP p)) (k := 12) (x := ((σ (iP p) 12) + 1)) (ty := .int) X (lt_PT hp) (sh_PT hp) rfl in_PT (by decide) tyX3 tyX3_ok nX3 wf_PT_50 rfl rfl rfl rfl rfl (fun _ => Nat.le_of_ble_eq_true rfl) (fun _ _ => rfl) dX3_restart_7 ?_
  generalize hg7 : (up σ (iP p) 12 ((σ (iP p) 12) + 1)) = g7
  have hI7 : Ic g7 := by rw [← hg7]; exact (Ic.upPT hI (by decide))
  refine v_aload_n X 0 dX3_restart_10 rfl rfl ?_
  refine v_getR (j := (iI p)) (i := (iP p)) (k := 9) X (lt_PT hp) (sh_PT hp) rfl in_PT (by decide) wf_PT_41 rfl (fun _ => rfl) dX3_restart_11 ?_
  refine v_iconst (v := 0) X dX3_restart_14 (by decide) ?_
  refine v_aload_n X 1 dX3_restart_15 rfl rfl ?_
  refine v_aload_n X 0 dX3_restart_16 rfl rfl ?_
  refine v_getI (i := (iP p)) (k := 1) X (lt_PT hp) (sh_PT hp) rfl in_PT (by decide) wf_PT_15 rfl (fun _ => rfl) dX3_restart_17 ?_
  refine v_aload_n X 0 dX3_restart_20 rfl rfl ?_
  refine v_getI (i := (iP p)) (k := 2) X (lt_PT hp) (sh_PT hp) rfl in_PT (by decide) wf_PT_18 rfl (fun _ => rfl) dX3_restart_21 ?_
  refine v_copy (i1 := (iI p)) (i2 := iWO) (t0 := 0) X (lt_IM hp) (sh_IM hp) (lt_WO ) (sh_WO ) rfl wm_PT_59 wac_n wac_s wac_i (by decide) (nlt0 (Ic.rg hI7 hp).1) (nlt0 (Ic.rg hI7 hp).2.1) (cp_a (Ic.rg hI7 hp).2.1 (Ic.rg hI7 hp).2.2.1) (cp_b (Ic.rg hI7 hp).1 (Ic.rg hI7 hp).2.1 (Ic.rg hI7 hp).2.2.2) (Nat.le_of_ble_eq_true rfl) (by decide) dX3_restart_24 ?_
  generalize hg24 : (upr g7 iWO (va_cpy (g7 (iI p)) (g7 iWO) (0 : Int32).toNatClampNeg ((g7 (iP p) 1) : Int32).toNatClampNeg ((g7 (iP p) 2) : Int32).toNatClampNeg)) = g24
  have hI24 : Ic g24 := by rw [← hg24]; exact (Ic.uprWO hI7)
  refine v_aload_n X 0 dX3_restart_27 rfl rfl ?_
  refine v_callV_CV (rest := []) X [] (c_PT_clearRegisters hp g24 ) mf_PT_clearRegisters wi_PT_clearRegisters wl_PT_clearRegisters (lt_PT hp) (sh_PT hp) rfl wm_PT_56 rfl ⟨by decide, by decide⟩ (Nat.le_of_ble_eq_true rfl) ⟨by decide, by decide⟩ dX3_restart_28 ?_
  generalize hg28 : (f_PT_clearRegisters p g24) = g28
  have hI28 : Ic g28 := by rw [← hg28]; exact (I_PT_clearRegisters p hI24)
  refine v_aload_n X 0 dX3_restart_31 rfl rfl ?_
  refine v_iconst (v := 1) X dX3_restart_32 (by decide) ?_
  refine v_put (i := (iP p)) (k := 7) (x := 1) (ty := .boolean) X (lt_PT hp) (sh_PT hp) rfl in_PT (by decide) tyX3 tyX3_ok nX3 wf_PT_34 rfl rfl rfl (zN (Or.inr rfl)) (zF (Or.inr rfl)) (fun _ => Nat.le_of_ble_eq_true rfl) (fun _ _ => rfl) dX3_restart_33 ?_
  generalize hg33 : (up g28 (iP p) 7 1) = g33
  have hI33 : Ic g33 := by rw [← hg33]; exact (Ic.upPT hI28 (by decide))
  have e9 : f_PT_restart p σ = g33 := by subst hg7; subst hg24; subst hg28; subst hg33; simp only [f_PT_restart]
  exact v_endV hend dX3_restart_36 e9
theorem I_PT_restart (p : Nat) {σ : St} (hI : Ic σ) : Ic (f_PT_restart p σ) := by
  unfold f_PT_restart
  exact (Ic.upPT (I_PT_clearRegisters p (Ic.uprWO (Ic.upPT hI (by decide)))) (by decide))
def f_PT_suffer (p : Nat) (xa : Int32) (σ : St) : St :=
  (if ((up (up σ (iP p) 10 ((σ (iP p) 10) + 1)) (iP p) 11 xa) (iP p) 3) = 2 then (up (up (up σ (iP p) 10 ((σ (iP p) 10) + 1)) (iP p) 11 xa) (iP p) 5 (((up (up σ (iP p) 10 ((σ (iP p) 10) + 1)) (iP p) 11 xa) (iP p) 5) + 4)) else (if ((up (up σ (iP p) 10 ((σ (iP p) 10) + 1)) (iP p) 11 xa) (iP p) 3) = 1 then (if 3 ≤ ((up (up σ (iP p) 10 ((σ (iP p) 10) + 1)) (iP p) 11 xa) (iP p) 12) then (up (up (up σ (iP p) 10 ((σ (iP p) 10) + 1)) (iP p) 11 xa) (iP p) 6 0) else (f_PT_restart p (up (up σ (iP p) 10 ((σ (iP p) 10) + 1)) (iP p) 11 xa))) else (up (up (up σ (iP p) 10 ((σ (iP p) 10) + 1)) (iP p) 11 xa) (iP p) 6 0)))
set_option maxHeartbeats 4000000 in
set_option maxRecDepth 100000 in
theorem c_PT_suffer {p : Nat} (hp : p < 4) (xa : Int32) (σ : St) (hI : Ic σ) : CV l D (tyL cA) rh (rcW rh cA) NW yX3_suffer cX3_suffer 3 2 [.ref (rh (iP p)), .int xa, .ref (rh iWO)] σ (f_PT_suffer p xa σ) := by
  refine CV.of rfl (Nat.le_of_ble_eq_true rfl) ?_
  intro p9 e s m args below meth c A Q X hend
  refine v_lv (lv' := [(0, .ref (rh (iP p))), (1, .int xa), (2, .ref (rh iWO))]) [0, 1, 2] rfl ?_
  refine v_aload_n X 0 dX3_suffer_0 rfl rfl ?_
  refine v_dup X dX3_suffer_1 rfl ?_
  refine v_getI (i := (iP p)) (k := 10) X (lt_PT hp) (sh_PT hp) rfl in_PT (by decide) wf_PT_44 rfl (fun _ => rfl) dX3_suffer_2 ?_
  refine v_iconst (v := 1) X dX3_suffer_5 (by decide) ?_
  refine v_iadd X dX3_suffer_6 ?_
  refine v_put (i := (iP p)) (k := 10) (x := ((σ (iP p) 10) + 1)) (ty := .int) X (lt_PT hp) (sh_PT hp) rfl in_PT (by decide) tyX3 tyX3_ok nX3 wf_PT_44 rfl rfl rfl rfl rfl (fun _ => Nat.le_of_ble_eq_true rfl) (fun _ _ => rfl) dX3_suffer_7 ?_
  generalize hg7 : (up σ (iP p) 10 ((σ (iP p) 10) + 1)) = g7
  have hI7 : Ic g7 := by rw [← hg7]; exact (Ic.upPT hI (by decide))
  refine v_aload_n X 0 dX3_suffer_10 rfl rfl ?_
  refine v_iload_n X 1 dX3_suffer_11 rfl rfl ?_
  refine v_put (i := (iP p)) (k := 11) (x := xa) (ty := .int) X (lt_PT hp) (sh_PT hp) rfl in_PT (by decide) tyX3 tyX3_ok nX3 wf_PT_47 rfl rfl rfl rfl rfl (fun _ => Nat.le_of_ble_eq_true rfl) (fun _ _ => rfl) dX3_suffer_12 ?_
  generalize hg12 : (up g7 (iP p) 11 xa) = g12
  have hI12 : Ic g12 := by rw [← hg12]; exact (Ic.upPT hI7 (by decide))
  refine v_aload_n X 0 dX3_suffer_15 rfl rfl ?_
  refine v_getI (i := (iP p)) (k := 3) X (lt_PT hp) (sh_PT hp) rfl in_PT (by decide) wf_PT_21 rfl (fun _ => rfl) dX3_suffer_16 ?_
  refine v_iconst (v := 2) X dX3_suffer_19 (by decide) ?_
  refine v_icmp_ne X 36 dX3_suffer_20 (by decide) (fun h20 => ?_) (fun h20 => ?_)
  ·
    refine v_aload_n X 0 dX3_suffer_36 rfl rfl ?_
    refine v_getI (i := (iP p)) (k := 3) X (lt_PT hp) (sh_PT hp) rfl in_PT (by decide) wf_PT_21 rfl (fun _ => rfl) dX3_suffer_37 ?_
    refine v_iconst (v := 1) X dX3_suffer_40 (by decide) ?_
    refine v_icmp_ne X 60 dX3_suffer_41 (by decide) (fun h41 => ?_) (fun h41 => ?_)
    ·
      refine v_aload_n X 0 dX3_suffer_60 rfl rfl ?_
      refine v_iconst (v := 0) X dX3_suffer_61 (by decide) ?_
      refine v_put (i := (iP p)) (k := 6) (x := 0) (ty := .boolean) X (lt_PT hp) (sh_PT hp) rfl in_PT (by decide) tyX3 tyX3_ok nX3 wf_PT_30 rfl rfl rfl (zN (Or.inl rfl)) (zF (Or.inl rfl)) (fun _ => Nat.le_of_ble_eq_true rfl) (fun _ _ => rfl) dX3_suffer_62 ?_
      generalize hg62 : (up g12 (iP p) 6 0) = g62
      have hI62 : Ic g62 := by rw [← hg62]; exact (Ic.upPT hI12 (by decide))
      have e9 : f_PT_suffer p xa σ = g62 := by subst hg7; subst hg12; subst hg62; simp only [f_PT_suffer, if_neg h20, if_neg h41]
      exact v_endV hend dX3_suffer_65 e9
    ·
      refine v_aload_n X 0 dX3_suffer_44 rfl rfl ?_
      refine v_getI (i := (iP p)) (k := 12) X (lt_PT hp) (sh_PT hp) rfl in_PT (by decide) wf_PT_50 rfl (fun _ => rfl) dX3_suffer_45 ?_
      refine v_iconst (v := 3) X dX3_suffer_48 (by decide) ?_
      refine v_icmp_ge X 60 dX3_suffer_49 (by decide) (fun h49 => ?_) (fun h49 => ?_)
      ·
        refine v_aload_n X 0 dX3_suffer_60 rfl rfl ?_
        refine v_iconst (v := 0) X dX3_suffer_61 (by decide) ?_
        refine v_put (i := (iP p)) (k := 6) (x := 0) (ty := .boolean) X (lt_PT hp) (sh_PT hp) rfl in_PT (by decide) tyX3 tyX3_ok nX3 wf_PT_30 rfl rfl rfl (zN (Or.inl rfl)) (zF (Or.inl rfl)) (fun _ => Nat.le_of_ble_eq_true rfl) (fun _ _ => rfl) dX3_suffer_62 ?_
        generalize hg62 : (up g12 (iP p) 6 0) = g62
        have hI62 : Ic g62 := by rw [← hg62]; exact (Ic.upPT hI12 (by decide))
        have e9 : f_PT_suffer p xa σ = g62 := by subst hg7; subst hg12; subst hg62; simp only [f_PT_suffer, if_neg h20, if_pos h41, if_pos h49]
        exact v_endV hend dX3_suffer_65 e9
      ·
        refine v_aload_n X 0 dX3_suffer_52 rfl rfl ?_
        refine v_aload_n X 2 dX3_suffer_53 rfl rfl ?_
        refine v_callV_CV (rest := []) X [.ref (rh iWO)] (c_PT_restart hp g12 hI12) mf_PT_restart wi_PT_restart wl_PT_restart (lt_PT hp) (sh_PT hp) rfl wm_PT_77 rfl ⟨by decide, by decide⟩ (Nat.le_of_ble_eq_true rfl) ⟨by decide, by decide⟩ dX3_suffer_54 ?_
        generalize hg54 : (f_PT_restart p g12) = g54
        have hI54 : Ic g54 := by rw [← hg54]; exact (I_PT_restart p hI12)
        refine v_goto (tgt := 65) X dX3_suffer_57 (by decide) ?_
        have e9 : f_PT_suffer p xa σ = g54 := by subst hg7; subst hg12; subst hg54; simp only [f_PT_suffer, if_neg h20, if_pos h41, if_neg h49]
        exact v_endV hend dX3_suffer_65 e9
  ·
    refine v_aload_n X 0 dX3_suffer_23 rfl rfl ?_
    refine v_dup X dX3_suffer_24 rfl ?_
    refine v_getI (i := (iP p)) (k := 5) X (lt_PT hp) (sh_PT hp) rfl in_PT (by decide) wf_PT_27 rfl (fun _ => rfl) dX3_suffer_25 ?_
    refine v_iconst (v := 4) X dX3_suffer_28 (by decide) ?_
    refine v_iadd X dX3_suffer_29 ?_
    refine v_put (i := (iP p)) (k := 5) (x := ((g12 (iP p) 5) + 4)) (ty := .int) X (lt_PT hp) (sh_PT hp) rfl in_PT (by decide) tyX3 tyX3_ok nX3 wf_PT_27 rfl rfl rfl rfl rfl (fun _ => Nat.le_of_ble_eq_true rfl) (fun _ _ => rfl) dX3_suffer_30 ?_
    generalize hg30 : (up g12 (iP p) 5 ((g12 (iP p) 5) + 4)) = g30
    have hI30 : Ic g30 := by rw [← hg30]; exact (Ic.upPT hI12 (by decide))
    refine v_goto (tgt := 65) X dX3_suffer_33 (by decide) ?_
    have e9 : f_PT_suffer p xa σ = g30 := by subst hg7; subst hg12; subst hg30; simp only [f_PT_suffer, if_pos h20]
    exact v_endV hend dX3_suffer_65 e9
theorem I_PT_suffer (p : Nat) (xa : Int32) {σ : St} (hI : Ic σ) : Ic (f_PT_suffer p xa σ) := by
  unfold f_PT_suffer
  exact (ic_ite (fun _ => (Ic.upPT (Ic.upPT (Ic.upPT hI (by decide)) (by decide)) (by decide))) (fun _ => (ic_ite (fun _ => (ic_ite (fun _ => (Ic.upPT (Ic.upPT (Ic.upPT hI (by decide)) (by decide)) (by decide))) (fun _ => (I_PT_restart p (Ic.upPT (Ic.upPT hI (by decide)) (by decide)))))) (fun _ => (Ic.upPT (Ic.upPT (Ic.upPT hI (by decide)) (by decide)) (by decide))))))
def f_PT_start (p : Nat) (σ : St) : St :=
  (up (upr (f_PT_clearRegisters p (up (up (up (up (up (up σ (iP p) 6 ((if (σ (iP p) 2) ≤ 0 then 0 else 1) : Int32)) (iP p) 7 0) (iP p) 10 0) (iP p) 11 0) (iP p) 12 0) (iP p) 13 0)) (iI p) (va_cpy ((f_PT_clearRegisters p (up (up (up (up (up (up σ (iP p) 6 ((if (σ (iP p) 2) ≤ 0 then 0 else 1) : Int32)) (iP p) 7 0) (iP p) 10 0) (iP p) 11 0) (iP p) 12 0) (iP p) 13 0)) iWO) ((f_PT_clearRegisters p (up (up (up (up (up (up σ (iP p) 6 ((if (σ (iP p) 2) ≤ 0 then 0 else 1) : Int32)) (iP p) 7 0) (iP p) 10 0) (iP p) 11 0) (iP p) 12 0) (iP p) 13 0)) (iI p)) (((f_PT_clearRegisters p (up (up (up (up (up (up σ (iP p) 6 ((if (σ (iP p) 2) ≤ 0 then 0 else 1) : Int32)) (iP p) 7 0) (iP p) 10 0) (iP p) 11 0) (iP p) 12 0) (iP p) 13 0)) (iP p) 1) : Int32).toNatClampNeg (0 : Int32).toNatClampNeg (((f_PT_clearRegisters p (up (up (up (up (up (up σ (iP p) 6 ((if (σ (iP p) 2) ≤ 0 then 0 else 1) : Int32)) (iP p) 7 0) (iP p) 10 0) (iP p) 11 0) (iP p) 12 0) (iP p) 13 0)) (iP p) 2) : Int32).toNatClampNeg)) (iP p) 4 ((if ((upr (f_PT_clearRegisters p (up (up (up (up (up (up σ (iP p) 6 ((if (σ (iP p) 2) ≤ 0 then 0 else 1) : Int32)) (iP p) 7 0) (iP p) 10 0) (iP p) 11 0) (iP p) 12 0) (iP p) 13 0)) (iI p) (va_cpy ((f_PT_clearRegisters p (up (up (up (up (up (up σ (iP p) 6 ((if (σ (iP p) 2) ≤ 0 then 0 else 1) : Int32)) (iP p) 7 0) (iP p) 10 0) (iP p) 11 0) (iP p) 12 0) (iP p) 13 0)) iWO) ((f_PT_clearRegisters p (up (up (up (up (up (up σ (iP p) 6 ((if (σ (iP p) 2) ≤ 0 then 0 else 1) : Int32)) (iP p) 7 0) (iP p) 10 0) (iP p) 11 0) (iP p) 12 0) (iP p) 13 0)) (iI p)) (((f_PT_clearRegisters p (up (up (up (up (up (up σ (iP p) 6 ((if (σ (iP p) 2) ≤ 0 then 0 else 1) : Int32)) (iP p) 7 0) (iP p) 10 0) (iP p) 11 0) (iP p) 12 0) (iP p) 13 0)) (iP p) 1) : Int32).toNatClampNeg (0 : Int32).toNatClampNeg (((f_PT_clearRegisters p (up (up (up (up (up (up σ (iP p) 6 ((if (σ (iP p) 2) ≤ 0 then 0 else 1) : Int32)) (iP p) 7 0) (iP p) 10 0) (iP p) 11 0) (iP p) 12 0) (iP p) 13 0)) (iP p) 2) : Int32).toNatClampNeg)) (iP p) 6) = 0 then 0 else (f_PT_measured p (upr (f_PT_clearRegisters p (up (up (up (up (up (up σ (iP p) 6 ((if (σ (iP p) 2) ≤ 0 then 0 else 1) : Int32)) (iP p) 7 0) (iP p) 10 0) (iP p) 11 0) (iP p) 12 0) (iP p) 13 0)) (iI p) (va_cpy ((f_PT_clearRegisters p (up (up (up (up (up (up σ (iP p) 6 ((if (σ (iP p) 2) ≤ 0 then 0 else 1) : Int32)) (iP p) 7 0) (iP p) 10 0) (iP p) 11 0) (iP p) 12 0) (iP p) 13 0)) iWO) ((f_PT_clearRegisters p (up (up (up (up (up (up σ (iP p) 6 ((if (σ (iP p) 2) ≤ 0 then 0 else 1) : Int32)) (iP p) 7 0) (iP p) 10 0) (iP p) 11 0) (iP p) 12 0) (iP p) 13 0)) (iI p)) (((f_PT_clearRegisters p (up (up (up (up (up (up σ (iP p) 6 ((if (σ (iP p) 2) ≤ 0 then 0 else 1) : Int32)) (iP p) 7 0) (iP p) 10 0) (iP p) 11 0) (iP p) 12 0) (iP p) 13 0)) (iP p) 1) : Int32).toNatClampNeg (0 : Int32).toNatClampNeg (((f_PT_clearRegisters p (up (up (up (up (up (up σ (iP p) 6 ((if (σ (iP p) 2) ≤ 0 then 0 else 1) : Int32)) (iP p) 7 0) (iP p) 10 0) (iP p) 11 0) (iP p) 12 0) (iP p) 13 0)) (iP p) 2) : Int32).toNatClampNeg)))) : Int32))
set_option maxHeartbeats 4000000 in
set_option maxRecDepth 100000 in
theorem c_PT_start {p : Nat} (hp : p < 4) (σ : St) (hI : Ic σ) : CV l D (tyL cA) rh (rcW rh cA) NW yX3_start cX3_start 2 2 [.ref (rh (iP p)), .ref (rh iWO)] σ (f_PT_start p σ) := by
  refine CV.of rfl (Nat.le_of_ble_eq_true rfl) ?_
  intro p9 e s m args below meth c A Q X hend
  refine v_lv (lv' := [(0, .ref (rh (iP p))), (1, .ref (rh iWO))]) [0, 1] rfl ?_
  refine v_aload_n X 0 dX3_start_0 rfl rfl ?_
  refine v_aload_n X 0 dX3_start_1 rfl rfl ?_
  refine v_getI (i := (iP p)) (k := 2) X (lt_PT hp) (sh_PT hp) rfl in_PT (by decide) wf_PT_18 rfl (fun _ => rfl) dX3_start_2 ?_
  refine v_suff (pc2 := 13) (lv2 := [(0, .ref (rh (iP p))), (1, .ref (rh iWO))]) (st2 := [.int ((if (σ (iP p) 2) ≤ 0 then 0 else 1) : Int32), .ref (rh (iP p))]) (σ2 := σ) ?_ (fun J5 => ?_)
  rotate_left
  ·
    refine v_if_le X 12 dX3_start_5 (by decide) (fun h5 => ?_) (fun h5 => ?_)
    ·
      refine v_iconst (v := 0) X dX3_start_12 (by decide) ?_
      have e9 : (((if (σ (iP p) 2) ≤ 0 then 0 else 1) : Int32) : Int32) = 0 := by simp only [if_pos h5]
      rw [e9] at J5
      exact J5
    ·
      refine v_iconst (v := 1) X dX3_start_8 (by decide) ?_
      refine v_goto (tgt := 13) X dX3_start_9 (by decide) ?_
      have e9 : (((if (σ (iP p) 2) ≤ 0 then 0 else 1) : Int32) : Int32) = 1 := by simp only [if_neg h5]
      rw [e9] at J5
      exact J5
  refine v_put (i := (iP p)) (k := 6) (x := ((if (σ (iP p) 2) ≤ 0 then 0 else 1) : Int32)) (ty := .boolean) X (lt_PT hp) (sh_PT hp) rfl in_PT (by decide) tyX3 tyX3_ok nX3 wf_PT_30 rfl rfl rfl (zN (by repeat' first | exact Or.inl rfl | exact Or.inr rfl | apply z_ite)) (zF (by repeat' first | exact Or.inl rfl | exact Or.inr rfl | apply z_ite)) (fun _ => Nat.le_of_ble_eq_true rfl) (fun _ _ => rfl) dX3_start_13 ?_
  generalize hg13 : (up σ (iP p) 6 ((if (σ (iP p) 2) ≤ 0 then 0 else 1) : Int32)) = g13
  have hI13 : Ic g13 := by rw [← hg13]; exact (Ic.upPT hI (by decide))
  refine v_aload_n X 0 dX3_start_16 rfl rfl ?_
  refine v_iconst (v := 0) X dX3_start_17 (by decide) ?_
  refine v_put (i := (iP p)) (k := 7) (x := 0) (ty := .boolean) X (lt_PT hp) (sh_PT hp) rfl in_PT (by decide) tyX3 tyX3_ok nX3 wf_PT_34 rfl rfl rfl (zN (Or.inl rfl)) (zF (Or.inl rfl)) (fun _ => Nat.le_of_ble_eq_true rfl) (fun _ _ => rfl) dX3_start_18 ?_
  generalize hg18 : (up g13 (iP p) 7 0) = g18
  have hI18 : Ic g18 := by rw [← hg18]; exact (Ic.upPT hI13 (by decide))
  refine v_aload_n X 0 dX3_start_21 rfl rfl ?_
  refine v_iconst (v := 0) X dX3_start_22 (by decide) ?_
  refine v_put (i := (iP p)) (k := 10) (x := 0) (ty := .int) X (lt_PT hp) (sh_PT hp) rfl in_PT (by decide) tyX3 tyX3_ok nX3 wf_PT_44 rfl rfl rfl rfl rfl (fun _ => Nat.le_of_ble_eq_true rfl) (fun _ _ => rfl) dX3_start_23 ?_
  generalize hg23 : (up g18 (iP p) 10 0) = g23
  have hI23 : Ic g23 := by rw [← hg23]; exact (Ic.upPT hI18 (by decide))
  refine v_aload_n X 0 dX3_start_26 rfl rfl ?_
  refine v_iconst (v := 0) X dX3_start_27 (by decide) ?_
  refine v_put (i := (iP p)) (k := 11) (x := 0) (ty := .int) X (lt_PT hp) (sh_PT hp) rfl in_PT (by decide) tyX3 tyX3_ok nX3 wf_PT_47 rfl rfl rfl rfl rfl (fun _ => Nat.le_of_ble_eq_true rfl) (fun _ _ => rfl) dX3_start_28 ?_
  generalize hg28 : (up g23 (iP p) 11 0) = g28
  have hI28 : Ic g28 := by rw [← hg28]; exact (Ic.upPT hI23 (by decide))
  refine v_aload_n X 0 dX3_start_31 rfl rfl ?_
  refine v_iconst (v := 0) X dX3_start_32 (by decide) ?_
  refine v_put (i := (iP p)) (k := 12) (x := 0) (ty := .int) X (lt_PT hp) (sh_PT hp) rfl in_PT (by decide) tyX3 tyX3_ok nX3 wf_PT_50 rfl rfl rfl rfl rfl (fun _ => Nat.le_of_ble_eq_true rfl) (fun _ _ => rfl) dX3_start_33 ?_
  generalize hg33 : (up g28 (iP p) 12 0) = g33
  have hI33 : Ic g33 := by rw [← hg33]; exact (Ic.upPT hI28 (by decide))
  refine v_aload_n X 0 dX3_start_36 rfl rfl ?_
  refine v_iconst (v := 0) X dX3_start_37 (by decide) ?_
  refine v_put (i := (iP p)) (k := 13) (x := 0) (ty := .int) X (lt_PT hp) (sh_PT hp) rfl in_PT (by decide) tyX3 tyX3_ok nX3 wf_PT_53 rfl rfl rfl rfl rfl (fun _ => Nat.le_of_ble_eq_true rfl) (fun _ _ => rfl) dX3_start_38 ?_
  generalize hg38 : (up g33 (iP p) 13 0) = g38
  have hI38 : Ic g38 := by rw [← hg38]; exact (Ic.upPT hI33 (by decide))
  refine v_aload_n X 0 dX3_start_41 rfl rfl ?_
  refine v_callV_CV (rest := []) X [] (c_PT_clearRegisters hp g38 ) mf_PT_clearRegisters wi_PT_clearRegisters wl_PT_clearRegisters (lt_PT hp) (sh_PT hp) rfl wm_PT_56 rfl ⟨by decide, by decide⟩ (Nat.le_of_ble_eq_true rfl) ⟨by decide, by decide⟩ dX3_start_42 ?_
  generalize hg42 : (f_PT_clearRegisters p g38) = g42
  have hI42 : Ic g42 := by rw [← hg42]; exact (I_PT_clearRegisters p hI38)
  refine v_aload_n X 1 dX3_start_45 rfl rfl ?_
  refine v_aload_n X 0 dX3_start_46 rfl rfl ?_
  refine v_getI (i := (iP p)) (k := 1) X (lt_PT hp) (sh_PT hp) rfl in_PT (by decide) wf_PT_15 rfl (fun _ => rfl) dX3_start_47 ?_
  refine v_aload_n X 0 dX3_start_50 rfl rfl ?_
  refine v_getR (j := (iI p)) (i := (iP p)) (k := 9) X (lt_PT hp) (sh_PT hp) rfl in_PT (by decide) wf_PT_41 rfl (fun _ => rfl) dX3_start_51 ?_
  refine v_iconst (v := 0) X dX3_start_54 (by decide) ?_
  refine v_aload_n X 0 dX3_start_55 rfl rfl ?_
  refine v_getI (i := (iP p)) (k := 2) X (lt_PT hp) (sh_PT hp) rfl in_PT (by decide) wf_PT_18 rfl (fun _ => rfl) dX3_start_56 ?_
  refine v_copy (i1 := iWO) (i2 := (iI p)) (t0 := 0) X (lt_WO ) (sh_WO ) (lt_IM hp) (sh_IM hp) rfl wm_PT_59 wac_n wac_s wac_i (nlt0 (Ic.rg hI42 hp).1) (by decide) (nlt0 (Ic.rg hI42 hp).2.1) (cp_b (Ic.rg hI42 hp).1 (Ic.rg hI42 hp).2.1 (Ic.rg hI42 hp).2.2.2) (cp_a (Ic.rg hI42 hp).2.1 (Ic.rg hI42 hp).2.2.1) (Nat.le_of_ble_eq_true rfl) (by decide) dX3_start_59 ?_
  generalize hg59 : (upr g42 (iI p) (va_cpy (g42 iWO) (g42 (iI p)) ((g42 (iP p) 1) : Int32).toNatClampNeg (0 : Int32).toNatClampNeg ((g42 (iP p) 2) : Int32).toNatClampNeg)) = g59
  have hI59 : Ic g59 := by rw [← hg59]; exact (Ic.uprIM hI42)
  refine v_aload_n X 0 dX3_start_62 rfl rfl ?_
  refine v_aload_n X 0 dX3_start_63 rfl rfl ?_
  refine v_getI (i := (iP p)) (k := 6) X (lt_PT hp) (sh_PT hp) rfl in_PT (by decide) wf_PT_30 rfl (fun _ => rfl) dX3_start_64 ?_
  refine v_suff (pc2 := 78) (lv2 := [(0, .ref (rh (iP p))), (1, .ref (rh iWO))]) (st2 := [.int ((if (g59 (iP p) 6) = 0 then 0 else (f_PT_measured p g59)) : Int32), .ref (rh (iP p))]) (σ2 := g59) ?_ (fun J67 => ?_)
  rotate_left
  ·
    refine v_if_eq X 77 dX3_start_67 (by decide) (fun h67 => ?_) (fun h67 => ?_)
    ·
      refine v_iconst (v := 0) X dX3_start_77 (by decide) ?_
      have e9 : (((if (g59 (iP p) 6) = 0 then 0 else (f_PT_measured p g59)) : Int32) : Int32) = 0 := by simp only [if_pos h67]
      rw [e9] at J67
      exact J67
    ·
      refine v_aload_n X 0 dX3_start_70 rfl rfl ?_
      refine v_callV_CI (rest := [.ref (rh (iP p))]) X [] (c_PT_measured hp g59 hI59) mf_PT_measured wi_PT_measured wl_PT_measured (lt_PT hp) (sh_PT hp) rfl wm_PT_65 rfl ⟨by decide, by decide⟩ (Nat.le_of_ble_eq_true rfl) ⟨by decide, by decide⟩ dX3_start_71 ?_
      refine v_goto (tgt := 78) X dX3_start_74 (by decide) ?_
      have e9 : (((if (g59 (iP p) 6) = 0 then 0 else (f_PT_measured p g59)) : Int32) : Int32) = (f_PT_measured p g59) := by simp only [if_neg h67]
      rw [e9] at J67
      exact J67
  refine v_put (i := (iP p)) (k := 4) (x := ((if (g59 (iP p) 6) = 0 then 0 else (f_PT_measured p g59)) : Int32)) (ty := .int) X (lt_PT hp) (sh_PT hp) rfl in_PT (by decide) tyX3 tyX3_ok nX3 wf_PT_24 rfl rfl rfl rfl rfl (fun _ => Nat.le_of_ble_eq_true rfl) (fun _ _ => rfl) dX3_start_78 ?_
  generalize hg78 : (up g59 (iP p) 4 ((if (g59 (iP p) 6) = 0 then 0 else (f_PT_measured p g59)) : Int32)) = g78
  have hI78 : Ic g78 := by rw [← hg78]; exact (Ic.upPT hI59 (by decide))
  have e9 : f_PT_start p σ = g78 := by subst hg13; subst hg18; subst hg23; subst hg28; subst hg33; subst hg38; subst hg42; subst hg59; subst hg78; simp only [f_PT_start]
  exact v_endV hend dX3_start_81 e9
theorem I_PT_start (p : Nat) {σ : St} (hI : Ic σ) : Ic (f_PT_start p σ) := by
  unfold f_PT_start
  exact (Ic.upPT (Ic.uprIM (I_PT_clearRegisters p (Ic.upPT (Ic.upPT (Ic.upPT (Ic.upPT (Ic.upPT (Ic.upPT hI (by decide)) (by decide)) (by decide)) (by decide)) (by decide)) (by decide)))) (by decide))
end CLS
end
section
theorem mf_CH_clear : MF yX0_clear cX0_clear 1 none 0 := ⟨gw_of (by decide +kernel) rfl, gw_of (by decide +kernel) rfl, by decide +kernel, by decide +kernel, by decide +kernel⟩
theorem mf_PT_holds : MF yX3_holds cX3_holds 2 (some .boolean) 1 := ⟨gw_of (by decide +kernel) rfl, gw_of (by decide +kernel) rfl, by decide +kernel, by decide +kernel, by decide +kernel⟩
theorem mf_PT_overlaps : MF yX3_overlaps cX3_overlaps 3 (some .boolean) 2 := ⟨gw_of (by decide +kernel) rfl, gw_of (by decide +kernel) rfl, by decide +kernel, by decide +kernel, by decide +kernel⟩
theorem mf_PT_start : MF yX3_start cX3_start 2 none 1 := ⟨gw_of (by decide +kernel) rfl, gw_of (by decide +kernel) rfl, by decide +kernel, by decide +kernel, by decide +kernel⟩
theorem wf_MA_15 : Cond.fieldLink RX2 15 RX2 "words" "[I" ∈ gw := gw_of (by decide +kernel) rfl
theorem wf_MA_181 : Cond.fieldLink RX2 181 RX3 "number" "I" ∈ gw := gw_of (by decide +kernel) rfl
theorem wf_MA_186 : Cond.fieldLink RX2 186 RX0 "readers" "I" ∈ gw := gw_of (by decide +kernel) rfl
theorem wf_MA_21 : Cond.fieldLink RX2 21 RX2 "partitions" "[LSeparationMonitor$Partition;" ∈ gw := gw_of (by decide +kernel) rfl
theorem wf_MA_30 : Cond.fieldLink RX2 30 RX2 "channels" "[LSeparationMonitor$Channel;" ∈ gw := gw_of (by decide +kernel) rfl
theorem wf_MA_42 : Cond.fieldLink RX2 42 RX2 "time" "I" ∈ gw := gw_of (by decide +kernel) rfl
theorem wf_MA_59 : Cond.fieldLink RX2 59 RX3 "ready" "Z" ∈ gw := gw_of (by decide +kernel) rfl
theorem wf_MA_63 : Cond.fieldLink RX2 63 RX3 "measurement" "I" ∈ gw := gw_of (by decide +kernel) rfl
theorem wf_MA_73 : Cond.fieldLink RX2 73 RX3 "pc" "I" ∈ gw := gw_of (by decide +kernel) rfl
theorem wi_CH_clear : Cond.instanceMethod yX0_clear ∈ gw := gw_of (by decide +kernel) rfl
theorem wi_PT_holds : Cond.instanceMethod yX3_holds ∈ gw := gw_of (by decide +kernel) rfl
theorem wi_PT_overlaps : Cond.instanceMethod yX3_overlaps ∈ gw := gw_of (by decide +kernel) rfl
theorem wi_PT_start : Cond.instanceMethod yX3_start ∈ gw := gw_of (by decide +kernel) rfl
theorem wl_CH_clear : Cond.selects yX0_clear.cls yX0_clear yX0_clear ∈ gw := gw_of (by decide +kernel) rfl
theorem wl_PT_holds : Cond.selects yX3_holds.cls yX3_holds yX3_holds ∈ gw := gw_of (by decide +kernel) rfl
theorem wl_PT_overlaps : Cond.selects yX3_overlaps.cls yX3_overlaps yX3_overlaps ∈ gw := gw_of (by decide +kernel) rfl
theorem wl_PT_start : Cond.selects yX3_start.cls yX3_start yX3_start ∈ gw := gw_of (by decide +kernel) rfl
theorem wm_MA_48 : Cond.methodLink RX2 48 yX3_overlaps ∈ gw := gw_of (by decide +kernel) rfl
theorem wm_MA_52 : Cond.methodLink RX2 52 yX0_clear ∈ gw := gw_of (by decide +kernel) rfl
theorem wm_MA_55 : Cond.methodLink RX2 55 yX3_start ∈ gw := gw_of (by decide +kernel) rfl
theorem wm_MA_91 : Cond.methodLink RX2 91 yX3_holds ∈ gw := gw_of (by decide +kernel) rfl
theorem wn_MA_66 : Cond.methodLinkNest RX2 66 yX7_mix RX7 ∈ nw := nw_of (by decide +kernel) rfl
theorem wi_b {c N : Int32} (h : ¬ f_SM_within c 0 N = 0) : ¬ c < 0 ∧ ¬ N < c := by
  unfold f_SM_within at h
  by_cases h1 : c < 0
  · simp [h1] at h
  · by_cases h2 : N < c
    · simp [h1, h2] at h
    · exact ⟨h1, h2⟩
theorem wi_in {c : Int32} (h : ¬ f_SM_within c 0 3 = 0) : vp_in c 4 := by
  obtain ⟨h1, h2⟩ := wi_b h
  rw [ilt, t0i] at h1; rw [ilt] at h2
  have z : (3 : Int32).toInt = 3 := by decide
  exact vin_mk (by omega) (by omega)
theorem ch_in {c : Int32} (h : ¬ f_SM_isChannel c = 0) : vp_in c 4 := wi_in h
theorem pt_in {c : Int32} (h : ¬ f_SM_isPartition c = 0) : vp_in c 4 := wi_in h
theorem wo_in {c : Int32} (h : ¬ f_SM_isWord c = 0) : vp_in c 96 := by
  obtain ⟨h1, h2⟩ := wi_b (show ¬ f_SM_within c 0 95 = 0 from h)
  rw [ilt, t0i] at h1; rw [ilt] at h2
  have z : (95 : Int32).toInt = 95 := by decide
  exact vin_mk (by omega) (by omega)
theorem hold_in {σ : St} {p : Nat} {a : Int32} (hI : Ic σ) (hp : p < 4) (h : ¬ f_PT_holds p a σ = 0) : vp_in ((σ (iP p) 1) + (a / 4)) 96 := by
  obtain ⟨h1, h2⟩ := wi_b (show ¬ f_SM_within a 0 ((4 * (σ (iP p) 2)) - 4) = 0 from h)
  obtain ⟨g1, g2, g3, g4⟩ := hI.rg hp
  obtain ⟨x, hx, ex⟩ := nI_of (nlt0 g1)
  obtain ⟨y, hy, ey⟩ := nI_of (nlt0 g2)
  obtain ⟨z, hz, ez⟩ := nI_of h1
  rw [ex, nI_toInt hx] at g4
  rw [ey, nI_toInt hy] at g3 g4
  rw [ey, ez] at h2
  rw [ex, ez]
  have e4 : (4 : Int32) = nI 4 := by decide
  by_cases hy0 : y = 0
  · subst hy0
    exfalso
    apply h2
    rw [ilt, nI_toInt hz]
    have e : ((4 : Int32) * nI 0 - 4).toInt = -4 := by decide
    omega
  · rw [e4, pk_mul, pk_sub (by omega), nI_ltI (by omega) (by omega)] at h2
    rw [e4, pk_div hz (by omega) (by omega), nI_add]
    exact vp_in_nI (by omega) (by omega)
section CLS
variable {l : Launch} {D : va_G} {rh : Nat → Nat} {cA : Nat → ClassId}
def lp_MA_overlapsAnother_3 (xa : Int32) (xb : Int32) (xc : Int32) : Nat → Int32 → St → Int32
  | 0, _, _ => 0
  | k9 + 1, i4, σ => (if 4 ≤ i4 then 0 else (if i4 = xa then (lp_MA_overlapsAnother_3 xa xb xc k9 (i4 + 1) σ) else (if (f_PT_overlaps (i4).toNatClampNeg xb xc σ) = 0 then (lp_MA_overlapsAnother_3 xa xb xc k9 (i4 + 1) σ) else 1)))
set_option maxHeartbeats 4000000 in
set_option maxRecDepth 100000 in
theorem lc_MA_overlapsAnother_3 (xa : Int32) (xb : Int32) (xc : Int32) {p9 : Program} {e : Env} {s : State} {m : MethodId} {args : Array Value} {below : List Frame} {meth : Method} {c : Code} {A : Nat → Prop} {Q : State → Prop} (X : Cx p9 s m args meth c D (tyL cA) A cX2_overlapsAnother 5 yX2_overlapsAnother.cls) : ∀ (k9 : Nat) (i4 : Int32) (σ : St), (hi : 0 ≤ i4.toInt ∧ i4.toInt ≤ 4) → (4 - i4.toInt < (k9 : Int)) → (∀ (pc : Nat) (lv : List (Nat × Value)), decode cX2_overlapsAnother pc = .ok (.ireturn, 1) → Vz p9 l e (Rz 1) s m args below meth c D A 5 rh (rcW rh cA) NW 0 0 Q pc lv [.int (lp_MA_overlapsAnother_3 xa xb xc k9 i4 σ)] σ) → Vz p9 l e (Rz 1) s m args below meth c D A 5 rh (rcW rh cA) NW 0 0 Q 3 [(0, .ref (rh iMA)), (1, .int xa), (2, .int xb), (3, .int xc), (4, .int i4)] [] σ := by
  intro k9
  induction k9 with
  | zero =>
    intro i4 σ hi hmu hend
    exact absurd hmu (by omega)
  | succ k9 ih =>
    intro i4 σ hi hmu hend
    refine v_iload X 4 dX2_overlapsAnother_3 rfl ?_
    refine v_iconst (v := 4) X dX2_overlapsAnother_5 (by decide) ?_
    refine v_icmp_ge X 38 dX2_overlapsAnother_6 (by decide) (fun h6 => ?_) (fun h6 => ?_)
    ·
      refine v_iconst (v := 0) X dX2_overlapsAnother_38 (by decide) ?_
      have e9 : lp_MA_overlapsAnother_3 xa xb xc (k9 + 1) i4 σ = 0 := by simp only [lp_MA_overlapsAnother_3, if_pos h6]
      exact v_endI hend dX2_overlapsAnother_39 e9 rfl
    ·
      refine v_iload X 4 dX2_overlapsAnother_9 rfl ?_
      refine v_iload_n X 1 dX2_overlapsAnother_11 rfl rfl ?_
      refine v_icmp_eq X 32 dX2_overlapsAnother_12 (by decide) (fun h12 => ?_) (fun h12 => ?_)
      ·
        refine v_iinc (v := (i4 + 1)) (lv' := [(4, .int (i4 + 1)), (0, .ref (rh iMA)), (1, .int xa), (2, .int xb), (3, .int xc)]) X 4 dX2_overlapsAnother_32 rfl rfl (by decide) rfl ?_
        refine v_goto (tgt := 3) X dX2_overlapsAnother_35 (by decide) ?_
        have e9 : lp_MA_overlapsAnother_3 xa xb xc (k9 + 1) i4 σ = lp_MA_overlapsAnother_3 xa xb xc k9 (i4 + 1) σ := by simp only [lp_MA_overlapsAnother_3, if_neg h6, if_pos h12]
        rw [e9] at hend
        refine v_lv (lv' := [(0, .ref (rh iMA)), (1, .int xa), (2, .int xb), (3, .int xc), (4, .int (i4 + 1))]) [1, 2, 3, 4, 0] rfl ?_
        exact ih (i4 + 1) σ ⟨by have u9 := i_succ h6; omega, by have u9 := i_succ h6; have u8 := h6; rw [ile] at u8; have z : (4 : Int32).toInt = 4 := (by decide); omega⟩ (by have h9 := i_succ h6; omega) hend
      ·
        refine v_aload_n X 0 dX2_overlapsAnother_15 rfl rfl ?_
        refine v_getR (j := iAP) (i := iMA) (k := 2) X (lt_MA ) (sh_MA ) rfl in_MA (by decide) wf_MA_21 rfl (fun _ => rfl) dX2_overlapsAnother_16 ?_
        refine v_iload X 4 dX2_overlapsAnother_19 rfl ?_
        have hv21 : vp_in i4 4 := (vin_mk hi.1 (nle (by decide) h6))
        refine v_aald (i := iAP) (t0 := 1) (g := iP) X (lt_APT ) (sh_APT ) rfl hv21 dX2_overlapsAnother_21 ?_
        refine v_iload_n X 2 dX2_overlapsAnother_22 rfl rfl ?_
        refine v_iload_n X 3 dX2_overlapsAnother_23 rfl rfl ?_
        refine v_callV_CI (rest := []) X [.int xb, .int xc] (c_PT_overlaps (vin_lt hv21) xb xc σ ) mf_PT_overlaps wi_PT_overlaps wl_PT_overlaps (lt_PT (vin_lt hv21)) (sh_PT (vin_lt hv21)) rfl wm_MA_48 rfl ⟨by decide, by decide⟩ (Nat.le_of_ble_eq_true rfl) ⟨by decide, by decide⟩ dX2_overlapsAnother_24 ?_
        refine v_if_eq X 32 dX2_overlapsAnother_27 (by decide) (fun h27 => ?_) (fun h27 => ?_)
        ·
          refine v_iinc (v := (i4 + 1)) (lv' := [(4, .int (i4 + 1)), (0, .ref (rh iMA)), (1, .int xa), (2, .int xb), (3, .int xc)]) X 4 dX2_overlapsAnother_32 rfl rfl (by decide) rfl ?_
          refine v_goto (tgt := 3) X dX2_overlapsAnother_35 (by decide) ?_
          have e9 : lp_MA_overlapsAnother_3 xa xb xc (k9 + 1) i4 σ = lp_MA_overlapsAnother_3 xa xb xc k9 (i4 + 1) σ := by simp only [lp_MA_overlapsAnother_3, if_neg h6, if_neg h12, if_pos h27]
          rw [e9] at hend
          refine v_lv (lv' := [(0, .ref (rh iMA)), (1, .int xa), (2, .int xb), (3, .int xc), (4, .int (i4 + 1))]) [1, 2, 3, 4, 0] rfl ?_
          exact ih (i4 + 1) σ ⟨by have u9 := i_succ h6; omega, by have u9 := i_succ h6; have u8 := h6; rw [ile] at u8; have z : (4 : Int32).toInt = 4 := (by decide); omega⟩ (by have h9 := i_succ h6; omega) hend
        ·
          refine v_iconst (v := 1) X dX2_overlapsAnother_30 (by decide) ?_
          have e9 : lp_MA_overlapsAnother_3 xa xb xc (k9 + 1) i4 σ = 1 := by simp only [lp_MA_overlapsAnother_3, if_neg h6, if_neg h12, if_neg h27]
          exact v_endI hend dX2_overlapsAnother_31 e9 rfl
def f_MA_overlapsAnother (xa : Int32) (xb : Int32) (xc : Int32) (σ : St) : Int32 :=
  (lp_MA_overlapsAnother_3 xa xb xc 5 0 σ)
theorem zl_MA_overlapsAnother (xa xb xc : Int32) : ∀ (k : Nat) (i : Int32) (σ : St), lp_MA_overlapsAnother_3 xa xb xc k i σ = 0 ∨ lp_MA_overlapsAnother_3 xa xb xc k i σ = 1 := by
  intro k
  induction k with
  | zero => intro i σ; exact Or.inl rfl
  | succ k ih =>
    intro i σ
    simp only [lp_MA_overlapsAnother_3]
    repeat' split
    all_goals first | exact Or.inl rfl | exact Or.inr rfl | exact ih _ _
theorem z_MA_overlapsAnother (xa : Int32) (xb : Int32) (xc : Int32) (σ : St) : (f_MA_overlapsAnother xa xb xc σ) = 0 ∨ (f_MA_overlapsAnother xa xb xc σ) = 1 := by
  unfold f_MA_overlapsAnother
  exact zl_MA_overlapsAnother ..
set_option maxHeartbeats 4000000 in
set_option maxRecDepth 100000 in
theorem c_MA_overlapsAnother (xa : Int32) (xb : Int32) (xc : Int32) (σ : St) : CI l D (tyL cA) rh (rcW rh cA) NW yX2_overlapsAnother cX2_overlapsAnother 5 .boolean 1 [.ref (rh iMA), .int xa, .int xb, .int xc] σ (f_MA_overlapsAnother xa xb xc σ) σ := by
  refine CI.of rfl (Nat.le_of_ble_eq_true rfl) (zN (z_MA_overlapsAnother ..)) ?_
  intro p9 e s m args below meth c A Q X hend
  refine v_lv (lv' := [(0, .ref (rh iMA)), (1, .int xa), (2, .int xb), (3, .int xc)]) [0, 1, 2, 3] rfl ?_
  refine v_iconst (v := 0) X dX2_overlapsAnother_0 (by decide) ?_
  refine v_istore (lv' := [(4, .int 0), (0, .ref (rh iMA)), (1, .int xa), (2, .int xb), (3, .int xc)]) X dX2_overlapsAnother_1 (by decide) rfl ?_
  have e9 : f_MA_overlapsAnother xa xb xc σ = lp_MA_overlapsAnother_3 xa xb xc 5 0 σ := by simp only [f_MA_overlapsAnother]
  rw [e9] at hend
  refine v_lv (lv' := [(0, .ref (rh iMA)), (1, .int xa), (2, .int xb), (3, .int xc), (4, .int 0)]) [1, 2, 3, 4, 0] rfl ?_
  exact lc_MA_overlapsAnother_3 xa xb xc  X 5 0 σ ⟨by decide, by decide⟩ (by decide) hend
def lp_MA_start_31  : Nat → Int32 → Int32 → St → Int32 × St
  | 0, _, _, σ => (0, σ)
  | k9 + 1, m1, i2, σ => (if 4 ≤ i2 then (m1, σ) else (if ((f_PT_start (i2).toNatClampNeg σ) (iP (i2).toNatClampNeg) 6) = 0 then (lp_MA_start_31  k9 m1 (i2 + 1) (f_PT_start (i2).toNatClampNeg σ)) else (lp_MA_start_31  k9 (f_SM_mix m1 ((f_PT_start (i2).toNatClampNeg σ) (iP (i2).toNatClampNeg) 4)) (i2 + 1) (f_PT_start (i2).toNatClampNeg σ))))
set_option maxHeartbeats 4000000 in
set_option maxRecDepth 100000 in
theorem lc_MA_start_31  {p9 : Program} {e : Env} {s : State} {m : MethodId} {args : Array Value} {below : List Frame} {meth : Method} {c : Code} {A : Nat → Prop} {Q : State → Prop} (X : Cx p9 s m args meth c D (tyL cA) A cX2_start 3 yX2_start.cls) : ∀ (k9 : Nat) (m1 : Int32) (i2 : Int32) (σ : St), (hI : Ic σ) → (hi : 0 ≤ i2.toInt ∧ i2.toInt ≤ 4) → (4 - i2.toInt < (k9 : Int)) → (∀ (pc : Nat) (lv : List (Nat × Value)), decode cX2_start pc = .ok (.ireturn, 1) → Vz p9 l e (Rz 3) s m args below meth c D A 3 rh (rcW rh cA) NW 0 0 Q pc lv [.int (lp_MA_start_31  k9 m1 i2 σ).1] (lp_MA_start_31  k9 m1 i2 σ).2) → Vz p9 l e (Rz 3) s m args below meth c D A 3 rh (rcW rh cA) NW 0 0 Q 31 [(0, .ref (rh iMA)), (1, .int m1), (2, .int i2)] [] σ := by
  intro k9
  induction k9 with
  | zero =>
    intro m1 i2 σ hI hi hmu hend
    exact absurd hmu (by omega)
  | succ k9 ih =>
    intro m1 i2 σ hI hi hmu hend
    refine v_iload_n X 2 dX2_start_31 rfl rfl ?_
    refine v_iconst (v := 4) X dX2_start_32 (by decide) ?_
    refine v_icmp_ge X 81 dX2_start_33 (by decide) (fun h33 => ?_) (fun h33 => ?_)
    ·
      refine v_iload_n X 1 dX2_start_81 rfl rfl ?_
      have e9 : lp_MA_start_31  (k9 + 1) m1 i2 σ = (m1, σ) := by simp only [lp_MA_start_31, if_pos h33]
      exact v_endI hend dX2_start_82 (by rw [e9]) (by rw [e9])
    ·
      refine v_aload_n X 0 dX2_start_36 rfl rfl ?_
      refine v_getR (j := iAP) (i := iMA) (k := 2) X (lt_MA ) (sh_MA ) rfl in_MA (by decide) wf_MA_21 rfl (fun _ => rfl) dX2_start_37 ?_
      refine v_iload_n X 2 dX2_start_40 rfl rfl ?_
      have hv41 : vp_in i2 4 := (vin_mk hi.1 (nle (by decide) h33))
      refine v_aald (i := iAP) (t0 := 1) (g := iP) X (lt_APT ) (sh_APT ) rfl hv41 dX2_start_41 ?_
      refine v_aload_n X 0 dX2_start_42 rfl rfl ?_
      refine v_getR (j := iWO) (i := iMA) (k := 1) X (lt_MA ) (sh_MA ) rfl in_MA (by decide) wf_MA_15 rfl (fun _ => rfl) dX2_start_43 ?_
      refine v_callV_CV (rest := []) X [.ref (rh iWO)] (c_PT_start (vin_lt hv41) σ hI) mf_PT_start wi_PT_start wl_PT_start (lt_PT (vin_lt hv41)) (sh_PT (vin_lt hv41)) rfl wm_MA_55 rfl ⟨by decide, by decide⟩ (Nat.le_of_ble_eq_true rfl) ⟨by decide, by decide⟩ dX2_start_46 ?_
      generalize hg46 : (f_PT_start (i2).toNatClampNeg σ) = g46
      have hI46 : Ic g46 := by rw [← hg46]; exact (I_PT_start (i2).toNatClampNeg hI)
      refine v_aload_n X 0 dX2_start_49 rfl rfl ?_
      refine v_getR (j := iAP) (i := iMA) (k := 2) X (lt_MA ) (sh_MA ) rfl in_MA (by decide) wf_MA_21 rfl (fun _ => rfl) dX2_start_50 ?_
      refine v_iload_n X 2 dX2_start_53 rfl rfl ?_
      have hv54 : vp_in i2 4 := (vin_mk hi.1 (nle (by decide) h33))
      refine v_aald (i := iAP) (t0 := 1) (g := iP) X (lt_APT ) (sh_APT ) rfl hv54 dX2_start_54 ?_
      refine v_getI (i := (iP (i2).toNatClampNeg)) (k := 6) X (lt_PT (vin_lt hv54)) (sh_PT (vin_lt hv54)) rfl in_PT (by decide) wf_MA_59 rfl (fun _ => rfl) dX2_start_55 ?_
      refine v_if_eq X 75 dX2_start_58 (by decide) (fun h58 => ?_) (fun h58 => ?_)
      ·
        refine v_iinc (v := (i2 + 1)) (lv' := [(2, .int (i2 + 1)), (0, .ref (rh iMA)), (1, .int m1)]) X 2 dX2_start_75 rfl rfl (by decide) rfl ?_
        refine v_goto (tgt := 31) X dX2_start_78 (by decide) ?_
        have e9 : lp_MA_start_31  (k9 + 1) m1 i2 σ = lp_MA_start_31  k9 m1 (i2 + 1) g46 := by subst hg46; simp only [lp_MA_start_31, if_neg h33, if_pos h58]
        rw [e9] at hend
        refine v_lv (lv' := [(0, .ref (rh iMA)), (1, .int m1), (2, .int (i2 + 1))]) [1, 2, 0] rfl ?_
        exact ih m1 (i2 + 1) g46 hI46 ⟨by have u9 := i_succ h33; omega, by have u9 := i_succ h33; have u8 := h33; rw [ile] at u8; have z : (4 : Int32).toInt = 4 := (by decide); omega⟩ (by have h8 := i_succ h33; omega) hend
      ·
        refine v_iload_n X 1 dX2_start_61 rfl rfl ?_
        refine v_aload_n X 0 dX2_start_62 rfl rfl ?_
        refine v_getR (j := iAP) (i := iMA) (k := 2) X (lt_MA ) (sh_MA ) rfl in_MA (by decide) wf_MA_21 rfl (fun _ => rfl) dX2_start_63 ?_
        refine v_iload_n X 2 dX2_start_66 rfl rfl ?_
        have hv67 : vp_in i2 4 := (vin_mk hi.1 (nle (by decide) h33))
        refine v_aald (i := iAP) (t0 := 1) (g := iP) X (lt_APT ) (sh_APT ) rfl hv67 dX2_start_67 ?_
        refine v_getI (i := (iP (i2).toNatClampNeg)) (k := 4) X (lt_PT (vin_lt hv67)) (sh_PT (vin_lt hv67)) rfl in_PT (by decide) wf_MA_63 rfl (fun _ => rfl) dX2_start_68 ?_
        refine v_callSN_CI (rest := []) X [.int m1, .int (g46 (iP (i2).toNatClampNeg) 4)] (c_SM_mix m1 (g46 (iP (i2).toNatClampNeg) 4) g46 ) mf_SM_mix ws_SM_mix wn_MA_66 rfl ⟨by decide, by decide⟩ (Nat.le_of_ble_eq_true rfl) ⟨by decide, by decide⟩ dX2_start_71 ?_
        refine v_istore_n (lv' := [(1, .int (f_SM_mix m1 (g46 (iP (i2).toNatClampNeg) 4))), (0, .ref (rh iMA)), (2, .int i2)]) X dX2_start_74 rfl (by decide) rfl ?_
        refine v_iinc (v := (i2 + 1)) (lv' := [(2, .int (i2 + 1)), (1, .int (f_SM_mix m1 (g46 (iP (i2).toNatClampNeg) 4))), (0, .ref (rh iMA))]) X 2 dX2_start_75 rfl rfl (by decide) rfl ?_
        refine v_goto (tgt := 31) X dX2_start_78 (by decide) ?_
        have e9 : lp_MA_start_31  (k9 + 1) m1 i2 σ = lp_MA_start_31  k9 (f_SM_mix m1 (g46 (iP (i2).toNatClampNeg) 4)) (i2 + 1) g46 := by subst hg46; simp only [lp_MA_start_31, if_neg h33, if_neg h58]
        rw [e9] at hend
        refine v_lv (lv' := [(0, .ref (rh iMA)), (1, .int (f_SM_mix m1 (g46 (iP (i2).toNatClampNeg) 4))), (2, .int (i2 + 1))]) [2, 1, 0] rfl ?_
        exact ih (f_SM_mix m1 (g46 (iP (i2).toNatClampNeg) 4)) (i2 + 1) g46 hI46 ⟨by have u9 := i_succ h33; omega, by have u9 := i_succ h33; have u8 := h33; rw [ile] at u8; have z : (4 : Int32).toInt = 4 := (by decide); omega⟩ (by have h8 := i_succ h33; omega) hend
def lp_MA_start_7  : Nat → Int32 → St → Int32 × St
  | 0, _, σ => (0, σ)
  | k9 + 1, i1, σ => (if 4 ≤ i1 then (lp_MA_start_31  5 0 0 σ) else (lp_MA_start_7  k9 (i1 + 1) (f_CH_clear (i1).toNatClampNeg σ)))
set_option maxHeartbeats 4000000 in
set_option maxRecDepth 100000 in
theorem lc_MA_start_7  {p9 : Program} {e : Env} {s : State} {m : MethodId} {args : Array Value} {below : List Frame} {meth : Method} {c : Code} {A : Nat → Prop} {Q : State → Prop} (X : Cx p9 s m args meth c D (tyL cA) A cX2_start 3 yX2_start.cls) : ∀ (k9 : Nat) (i1 : Int32) (σ : St), (hI : Ic σ) → (hi : 0 ≤ i1.toInt ∧ i1.toInt ≤ 4) → (4 - i1.toInt < (k9 : Int)) → (∀ (pc : Nat) (lv : List (Nat × Value)), decode cX2_start pc = .ok (.ireturn, 1) → Vz p9 l e (Rz 3) s m args below meth c D A 3 rh (rcW rh cA) NW 0 0 Q pc lv [.int (lp_MA_start_7  k9 i1 σ).1] (lp_MA_start_7  k9 i1 σ).2) → Vz p9 l e (Rz 3) s m args below meth c D A 3 rh (rcW rh cA) NW 0 0 Q 7 [(0, .ref (rh iMA)), (1, .int i1)] [] σ := by
  intro k9
  induction k9 with
  | zero =>
    intro i1 σ hI hi hmu hend
    exact absurd hmu (by omega)
  | succ k9 ih =>
    intro i1 σ hI hi hmu hend
    refine v_iload_n X 1 dX2_start_7 rfl rfl ?_
    refine v_iconst (v := 4) X dX2_start_8 (by decide) ?_
    refine v_icmp_ge X 27 dX2_start_9 (by decide) (fun h9 => ?_) (fun h9 => ?_)
    ·
      refine v_iconst (v := 0) X dX2_start_27 (by decide) ?_
      refine v_istore_n (lv' := [(1, .int 0), (0, .ref (rh iMA))]) X dX2_start_28 rfl (by decide) rfl ?_
      refine v_iconst (v := 0) X dX2_start_29 (by decide) ?_
      refine v_istore_n (lv' := [(2, .int 0), (1, .int 0), (0, .ref (rh iMA))]) X dX2_start_30 rfl (by decide) rfl ?_
      have e9 : lp_MA_start_7  (k9 + 1) i1 σ = lp_MA_start_31  5 0 0 σ := by simp only [lp_MA_start_7, if_pos h9]
      rw [e9] at hend
      refine v_lv (lv' := [(0, .ref (rh iMA)), (1, .int 0), (2, .int 0)]) [2, 1, 0] rfl ?_
      exact lc_MA_start_31   X 5 0 0 σ hI ⟨by decide, by decide⟩ (by decide) hend
    ·
      refine v_aload_n X 0 dX2_start_12 rfl rfl ?_
      refine v_getR (j := iAC) (i := iMA) (k := 3) X (lt_MA ) (sh_MA ) rfl in_MA (by decide) wf_MA_30 rfl (fun _ => rfl) dX2_start_13 ?_
      refine v_iload_n X 1 dX2_start_16 rfl rfl ?_
      have hv17 : vp_in i1 4 := (vin_mk hi.1 (nle (by decide) h9))
      refine v_aald (i := iAC) (t0 := 2) (g := iC) X (lt_ACH ) (sh_ACH ) rfl hv17 dX2_start_17 ?_
      refine v_callV_CV (rest := []) X [] (c_CH_clear (vin_lt hv17) σ ) mf_CH_clear wi_CH_clear wl_CH_clear (lt_CH (vin_lt hv17)) (sh_CH (vin_lt hv17)) rfl wm_MA_52 rfl ⟨by decide, by decide⟩ (Nat.le_of_ble_eq_true rfl) ⟨by decide, by decide⟩ dX2_start_18 ?_
      generalize hg18 : (f_CH_clear (i1).toNatClampNeg σ) = g18
      have hI18 : Ic g18 := by rw [← hg18]; exact (I_CH_clear (i1).toNatClampNeg hI)
      refine v_iinc (v := (i1 + 1)) (lv' := [(1, .int (i1 + 1)), (0, .ref (rh iMA))]) X 1 dX2_start_21 rfl rfl (by decide) rfl ?_
      refine v_goto (tgt := 7) X dX2_start_24 (by decide) ?_
      have e9 : lp_MA_start_7  (k9 + 1) i1 σ = lp_MA_start_7  k9 (i1 + 1) g18 := by subst hg18; simp only [lp_MA_start_7, if_neg h9]
      rw [e9] at hend
      refine v_lv (lv' := [(0, .ref (rh iMA)), (1, .int (i1 + 1))]) [1, 0] rfl ?_
      exact ih (i1 + 1) g18 hI18 ⟨by have u9 := i_succ h9; omega, by have u9 := i_succ h9; have u8 := h9; rw [ile] at u8; have z : (4 : Int32).toInt = 4 := (by decide); omega⟩ (by have u8 := i_succ h9; omega) hend
def f_MA_start (σ : St) : Int32 × St :=
  (lp_MA_start_7  5 0 (up σ iMA 5 0))
set_option maxHeartbeats 4000000 in
set_option maxRecDepth 100000 in
theorem c_MA_start  (σ : St) (hI : Ic σ) : CI l D (tyL cA) rh (rcW rh cA) NW yX2_start cX2_start 3 .int 3 [.ref (rh iMA)] σ (f_MA_start σ).1 (f_MA_start σ).2 := by
  refine CI.of rfl (Nat.le_of_ble_eq_true rfl) rfl ?_
  intro p9 e s m args below meth c A Q X hend
  refine v_lv (lv' := [(0, .ref (rh iMA))]) [0] rfl ?_
  refine v_aload_n X 0 dX2_start_0 rfl rfl ?_
  refine v_iconst (v := 0) X dX2_start_1 (by decide) ?_
  refine v_put (i := iMA) (k := 5) (x := 0) (ty := .int) X (lt_MA ) (sh_MA ) rfl in_MA (by decide) tyX2 tyX2_ok nX2 wf_MA_42 rfl rfl rfl rfl rfl (fun _ => Nat.le_of_ble_eq_true rfl) (fun _ _ => rfl) dX2_start_2 ?_
  generalize hg2 : (up σ iMA 5 0) = g2
  have hI2 : Ic g2 := by rw [← hg2]; exact (Ic.upMA hI)
  refine v_iconst (v := 0) X dX2_start_5 (by decide) ?_
  refine v_istore_n (lv' := [(1, .int 0), (0, .ref (rh iMA))]) X dX2_start_6 rfl (by decide) rfl ?_
  have e9 : f_MA_start σ = lp_MA_start_7  5 0 g2 := by subst hg2; simp only [f_MA_start]
  rw [e9] at hend
  refine v_lv (lv' := [(0, .ref (rh iMA)), (1, .int 0)]) [1, 0] rfl ?_
  exact lc_MA_start_7   X 5 0 g2 hI2 ⟨by decide, by decide⟩ (by decide) hend
theorem Il_MA_start2 : ∀ (k : Nat) (m i : Int32) (σ : St), Ic σ → Ic (lp_MA_start_31 k m i σ).2 := by
  intro k
  induction k with
  | zero => intro m i σ h; exact h
  | succ k ih =>
    intro m i σ h
    simp only [lp_MA_start_31]
    exact ic_ite2 (fun _ => h) (fun _ => ic_ite2 (fun _ => ih _ _ _ (I_PT_start _ h)) (fun _ => ih _ _ _ (I_PT_start _ h)))
theorem Il_MA_start1 : ∀ (k : Nat) (i : Int32) (σ : St), Ic σ → Ic (lp_MA_start_7 k i σ).2 := by
  intro k
  induction k with
  | zero => intro i σ h; exact h
  | succ k ih =>
    intro i σ h
    simp only [lp_MA_start_7]
    exact ic_ite2 (fun _ => Il_MA_start2 _ _ _ _ h) (fun _ => ih _ _ (I_CH_clear _ h))
theorem I_MA_start {σ : St} (hI : Ic σ) : Ic (f_MA_start σ).2 := by
  unfold f_MA_start
  exact Il_MA_start1 _ _ _ (Ic.upMA hI)
def f_MA_fetchFault (p : Nat) (σ : St) : Int32 :=
  (if ((σ (iP p) 5) &&& 3) = 0 then ((if (f_PT_holds p (σ (iP p) 5) σ) = 0 then 3 else 0) : Int32) else 2)
set_option maxHeartbeats 4000000 in
set_option maxRecDepth 100000 in
theorem c_MA_fetchFault {p : Nat} (hp : p < 4) (σ : St) : CI l D (tyL cA) rh (rcW rh cA) NW yX2_fetchFault cX2_fetchFault 1 .int 2 [.ref (rh (iP p))] σ (f_MA_fetchFault p σ) σ := by
  refine CI.of rfl (Nat.le_of_ble_eq_true rfl) rfl ?_
  intro p9 e s m args below meth c A Q X hend
  refine v_lv (lv' := [(0, .ref (rh (iP p)))]) [0] rfl ?_
  refine v_aload_n X 0 dX2_fetchFault_0 rfl rfl ?_
  refine v_getI (i := (iP p)) (k := 5) X (lt_PT hp) (sh_PT hp) rfl in_PT (by decide) wf_MA_73 rfl (fun _ => rfl) dX2_fetchFault_1 ?_
  refine v_iconst (v := 3) X dX2_fetchFault_4 (by decide) ?_
  refine v_iand X dX2_fetchFault_5 ?_
  refine v_if_eq X 11 dX2_fetchFault_6 (by decide) (fun h6 => ?_) (fun h6 => ?_)
  ·
    refine v_aload_n X 0 dX2_fetchFault_11 rfl rfl ?_
    refine v_aload_n X 0 dX2_fetchFault_12 rfl rfl ?_
    refine v_getI (i := (iP p)) (k := 5) X (lt_PT hp) (sh_PT hp) rfl in_PT (by decide) wf_MA_73 rfl (fun _ => rfl) dX2_fetchFault_13 ?_
    refine v_callV_CI (rest := []) X [.int (σ (iP p) 5)] (c_PT_holds hp (σ (iP p) 5) σ ) mf_PT_holds wi_PT_holds wl_PT_holds (lt_PT hp) (sh_PT hp) rfl wm_MA_91 rfl ⟨by decide, by decide⟩ (Nat.le_of_ble_eq_true rfl) ⟨by decide, by decide⟩ dX2_fetchFault_16 ?_
    refine v_suff (pc2 := 27) (lv2 := [(0, .ref (rh (iP p)))]) (st2 := [.int ((if (f_PT_holds p (σ (iP p) 5) σ) = 0 then 3 else 0) : Int32)]) (σ2 := σ) ?_ (fun J19 => ?_)
    rotate_left
    ·
      refine v_if_eq X 26 dX2_fetchFault_19 (by decide) (fun h19 => ?_) (fun h19 => ?_)
      ·
        refine v_iconst (v := 3) X dX2_fetchFault_26 (by decide) ?_
        have e9 : (((if (f_PT_holds p (σ (iP p) 5) σ) = 0 then 3 else 0) : Int32) : Int32) = 3 := by simp only [if_pos h19]
        rw [e9] at J19
        exact J19
      ·
        refine v_iconst (v := 0) X dX2_fetchFault_22 (by decide) ?_
        refine v_goto (tgt := 27) X dX2_fetchFault_23 (by decide) ?_
        have e9 : (((if (f_PT_holds p (σ (iP p) 5) σ) = 0 then 3 else 0) : Int32) : Int32) = 0 := by simp only [if_neg h19]
        rw [e9] at J19
        exact J19
    have e9 : f_MA_fetchFault p σ = ((if (f_PT_holds p (σ (iP p) 5) σ) = 0 then 3 else 0) : Int32) := by simp only [f_MA_fetchFault, if_pos h6]
    exact v_endI hend dX2_fetchFault_27 e9 rfl
  ·
    refine v_iconst (v := 2) X dX2_fetchFault_9 (by decide) ?_
    have e9 : f_MA_fetchFault p σ = 2 := by simp only [f_MA_fetchFault, if_neg h6]
    exact v_endI hend dX2_fetchFault_10 e9 rfl
def f_MA_channelAt (xa : Int32) : Int32 :=
  ((xa - 4096) / 4)
set_option maxHeartbeats 4000000 in
set_option maxRecDepth 100000 in
theorem c_MA_channelAt (xa : Int32) (σ : St) : CI l D (tyL cA) rh (rcW rh cA) NW yX2_channelAt cX2_channelAt 1 .int 0 [.int xa] σ (f_MA_channelAt xa) σ := by
  refine CI.of rfl (Nat.le_of_ble_eq_true rfl) rfl ?_
  intro p9 e s m args below meth c A Q X hend
  refine v_lv (lv' := [(0, .int xa)]) [0] rfl ?_
  refine v_iload_n X 0 dX2_channelAt_0 rfl rfl ?_
  refine v_sipush (v := 4096) X dX2_channelAt_1 (by decide) ?_
  refine v_isub X dX2_channelAt_4 ?_
  refine v_iconst (v := 4) X dX2_channelAt_5 (by decide) ?_
  refine v_idiv X (by decide) dX2_channelAt_6 ?_
  have e9 : f_MA_channelAt xa = ((xa - 4096) / 4) := by simp only [f_MA_channelAt]
  exact v_endI hend dX2_channelAt_7 e9 rfl
def f_MA_isReadable (xa : Int32) (p : Nat) (σ : St) : Int32 :=
  ((if xa < 0 then 0 else (if 4 ≤ xa then 0 else (if ((ushr (σ (iC (xa).toNatClampNeg) 1) (σ (iP p) 0)) &&& 1) = 1 then 1 else 0))) : Int32)
theorem z_MA_isReadable (xa : Int32) (p : Nat) (σ : St) : (f_MA_isReadable xa p σ) = 0 ∨ (f_MA_isReadable xa p σ) = 1 := by
  unfold f_MA_isReadable
  repeat' first | exact Or.inl rfl | exact Or.inr rfl | apply z_ite | split
set_option maxHeartbeats 4000000 in
set_option maxRecDepth 100000 in
theorem c_MA_isReadable (xa : Int32) {p : Nat} (hp : p < 4) (σ : St) : CI l D (tyL cA) rh (rcW rh cA) NW yX2_isReadable cX2_isReadable 3 .boolean 0 [.ref (rh iMA), .int xa, .ref (rh (iP p))] σ (f_MA_isReadable xa p σ) σ := by
  refine CI.of rfl (Nat.le_of_ble_eq_true rfl) (zN (z_MA_isReadable ..)) ?_
  intro p9 e s m args below meth c A Q X hend
  refine v_lv (lv' := [(0, .ref (rh iMA)), (1, .int xa), (2, .ref (rh (iP p)))]) [0, 1, 2] rfl ?_
  refine v_iload_n X 1 dX2_isReadable_0 rfl rfl ?_
  refine v_suff (pc2 := 34) (lv2 := [(0, .ref (rh iMA)), (1, .int xa), (2, .ref (rh (iP p)))]) (st2 := [.int ((if xa < 0 then 0 else (if 4 ≤ xa then 0 else (if ((ushr (σ (iC (xa).toNatClampNeg) 1) (σ (iP p) 0)) &&& 1) = 1 then 1 else 0))) : Int32)]) (σ2 := σ) ?_ (fun J1 => ?_)
  rotate_left
  ·
    refine v_if_lt X 33 dX2_isReadable_1 (by decide) (fun h1 => ?_) (fun h1 => ?_)
    ·
      refine v_iconst (v := 0) X dX2_isReadable_33 (by decide) ?_
      have e9 : (((if xa < 0 then 0 else (if 4 ≤ xa then 0 else (if ((ushr (σ (iC (xa).toNatClampNeg) 1) (σ (iP p) 0)) &&& 1) = 1 then 1 else 0))) : Int32) : Int32) = 0 := by simp only [if_pos h1]
      rw [e9] at J1
      exact J1
    ·
      refine v_iload_n X 1 dX2_isReadable_4 rfl rfl ?_
      refine v_iconst (v := 4) X dX2_isReadable_5 (by decide) ?_
      refine v_icmp_ge X 33 dX2_isReadable_6 (by decide) (fun h6 => ?_) (fun h6 => ?_)
      ·
        refine v_iconst (v := 0) X dX2_isReadable_33 (by decide) ?_
        have e9 : (((if xa < 0 then 0 else (if 4 ≤ xa then 0 else (if ((ushr (σ (iC (xa).toNatClampNeg) 1) (σ (iP p) 0)) &&& 1) = 1 then 1 else 0))) : Int32) : Int32) = 0 := by simp only [if_neg h1, if_pos h6]
        rw [e9] at J1
        exact J1
      ·
        refine v_aload_n X 0 dX2_isReadable_9 rfl rfl ?_
        refine v_getR (j := iAC) (i := iMA) (k := 3) X (lt_MA ) (sh_MA ) rfl in_MA (by decide) wf_MA_30 rfl (fun _ => rfl) dX2_isReadable_10 ?_
        refine v_iload_n X 1 dX2_isReadable_13 rfl rfl ?_
        have hv14 : vp_in xa 4 := (vin_c 4 (by decide) h1 h6)
        refine v_aald (i := iAC) (t0 := 2) (g := iC) X (lt_ACH ) (sh_ACH ) rfl hv14 dX2_isReadable_14 ?_
        refine v_getI (i := (iC (xa).toNatClampNeg)) (k := 1) X (lt_CH (vin_lt hv14)) (sh_CH (vin_lt hv14)) rfl in_CH (by decide) wf_MA_186 rfl (fun _ => rfl) dX2_isReadable_15 ?_
        refine v_aload_n X 2 dX2_isReadable_18 rfl rfl ?_
        refine v_getI (i := (iP p)) (k := 0) X (lt_PT hp) (sh_PT hp) rfl in_PT (by decide) wf_MA_181 rfl (fun _ => rfl) dX2_isReadable_19 ?_
        refine v_iushr X dX2_isReadable_22 ?_
        refine v_iconst (v := 1) X dX2_isReadable_23 (by decide) ?_
        refine v_iand X dX2_isReadable_24 ?_
        refine v_iconst (v := 1) X dX2_isReadable_25 (by decide) ?_
        refine v_icmp_ne X 33 dX2_isReadable_26 (by decide) (fun h26 => ?_) (fun h26 => ?_)
        ·
          refine v_iconst (v := 0) X dX2_isReadable_33 (by decide) ?_
          have e9 : (((if xa < 0 then 0 else (if 4 ≤ xa then 0 else (if ((ushr (σ (iC (xa).toNatClampNeg) 1) (σ (iP p) 0)) &&& 1) = 1 then 1 else 0))) : Int32) : Int32) = 0 := by simp only [if_neg h1, if_neg h6, if_neg h26]
          rw [e9] at J1
          exact J1
        ·
          refine v_iconst (v := 1) X dX2_isReadable_29 (by decide) ?_
          refine v_goto (tgt := 34) X dX2_isReadable_30 (by decide) ?_
          have e9 : (((if xa < 0 then 0 else (if 4 ≤ xa then 0 else (if ((ushr (σ (iC (xa).toNatClampNeg) 1) (σ (iP p) 0)) &&& 1) = 1 then 1 else 0))) : Int32) : Int32) = 1 := by simp only [if_neg h1, if_neg h6, if_pos h26]
          rw [e9] at J1
          exact J1
  have e9 : f_MA_isReadable xa p σ = ((if xa < 0 then 0 else (if 4 ≤ xa then 0 else (if ((ushr (σ (iC (xa).toNatClampNeg) 1) (σ (iP p) 0)) &&& 1) = 1 then 1 else 0))) : Int32) := by simp only [f_MA_isReadable]
  exact v_endI hend dX2_isReadable_34 e9 rfl
end CLS
theorem rd_in {c : Int32} {p : Nat} {σ : St} (h : ¬ f_MA_isReadable c p σ = 0) : vp_in c 4 := by
  unfold f_MA_isReadable at h
  by_cases h1 : c < 0
  · simp [h1] at h
  · by_cases h2 : (4 : Int32) ≤ c
    · simp [h1, h2] at h
    · exact vin_c 4 (by decide) h1 h2
theorem ff_in {σ : St} {p : Nat} (hI : Ic σ) (hp : p < 4) (h : f_MA_fetchFault p σ = 0) : vp_in ((σ (iP p) 1) + ((σ (iP p) 5) / 4)) 96 := by
  refine hold_in hI hp (fun h1 => ?_)
  unfold f_MA_fetchFault at h
  simp only [h1] at h
  revert h
  split <;> decide
theorem pn_in {σ : St} (hI : Ic σ) : vp_in (f_TT_partitionNow σ) 4 := by
  unfold f_TT_partitionNow
  have h1 := hI.tc
  have h2 := hI.tp (w := (σ iTT 3).toNatClampNeg) (by have h3 := clamp_toInt h1.1; omega)
  exact vin_mk h2.1 h2.2
end
section
theorem mf_CH_age : MF yX0_age cX0_age 2 (some .int) 1 := ⟨gw_of (by decide +kernel) rfl, gw_of (by decide +kernel) rfl, by decide +kernel, by decide +kernel, by decide +kernel⟩
theorem mf_CH_valueOrZero : MF yX0_valueOrZero cX0_valueOrZero 1 (some .int) 0 := ⟨gw_of (by decide +kernel) rfl, gw_of (by decide +kernel) rfl, by decide +kernel, by decide +kernel, by decide +kernel⟩
theorem mf_CH_write : MF yX0_write cX0_write 3 none 2 := ⟨gw_of (by decide +kernel) rfl, gw_of (by decide +kernel) rfl, by decide +kernel, by decide +kernel, by decide +kernel⟩
theorem mf_CO_immediateB : MF yX1_immediateB cX1_immediateB 1 (some .int) 1 := ⟨gw_of (by decide +kernel) rfl, gw_of (by decide +kernel) rfl, by decide +kernel, by decide +kernel, by decide +kernel⟩
theorem mf_CO_immediateI : MF yX1_immediateI cX1_immediateI 1 (some .int) 1 := ⟨gw_of (by decide +kernel) rfl, gw_of (by decide +kernel) rfl, by decide +kernel, by decide +kernel, by decide +kernel⟩
theorem mf_CO_immediateJ : MF yX1_immediateJ cX1_immediateJ 1 (some .int) 1 := ⟨gw_of (by decide +kernel) rfl, gw_of (by decide +kernel) rfl, by decide +kernel, by decide +kernel, by decide +kernel⟩
theorem mf_CO_immediateS : MF yX1_immediateS cX1_immediateS 1 (some .int) 1 := ⟨gw_of (by decide +kernel) rfl, gw_of (by decide +kernel) rfl, by decide +kernel, by decide +kernel, by decide +kernel⟩
theorem mf_CO_immediateU : MF yX1_immediateU cX1_immediateU 1 (some .int) 1 := ⟨gw_of (by decide +kernel) rfl, gw_of (by decide +kernel) rfl, by decide +kernel, by decide +kernel, by decide +kernel⟩
theorem mf_CO_isKnown : MF yX1_isKnown cX1_isKnown 4 (some .boolean) 1 := ⟨gw_of (by decide +kernel) rfl, gw_of (by decide +kernel) rfl, by decide +kernel, by decide +kernel, by decide +kernel⟩
theorem mf_MA_channelAt : MF yX2_channelAt cX2_channelAt 1 (some .int) 1 := ⟨gw_of (by decide +kernel) rfl, gw_of (by decide +kernel) rfl, by decide +kernel, by decide +kernel, by decide +kernel⟩
theorem mf_MA_execute : MF yX2_execute cX2_execute 8 (some .int) 2 := ⟨gw_of (by decide +kernel) rfl, gw_of (by decide +kernel) rfl, by decide +kernel, by decide +kernel, by decide +kernel⟩
theorem mf_MA_fetchFault : MF yX2_fetchFault cX2_fetchFault 1 (some .int) 1 := ⟨gw_of (by decide +kernel) rfl, gw_of (by decide +kernel) rfl, by decide +kernel, by decide +kernel, by decide +kernel⟩
theorem mf_MA_isReadable : MF yX2_isReadable cX2_isReadable 3 (some .boolean) 2 := ⟨gw_of (by decide +kernel) rfl, gw_of (by decide +kernel) rfl, by decide +kernel, by decide +kernel, by decide +kernel⟩
theorem mf_MA_jump : MF yX2_jump cX2_jump 4 (some .int) 3 := ⟨gw_of (by decide +kernel) rfl, gw_of (by decide +kernel) rfl, by decide +kernel, by decide +kernel, by decide +kernel⟩
theorem mf_MA_open : MF yX2_open cX2_open 5 (some .int) 2 := ⟨gw_of (by decide +kernel) rfl, gw_of (by decide +kernel) rfl, by decide +kernel, by decide +kernel, by decide +kernel⟩
theorem mf_MA_readInto : MF yX2_readInto cX2_readInto 5 (some .int) 3 := ⟨gw_of (by decide +kernel) rfl, gw_of (by decide +kernel) rfl, by decide +kernel, by decide +kernel, by decide +kernel⟩
theorem mf_MA_seal : MF yX2_seal cX2_seal 4 (some .int) 3 := ⟨gw_of (by decide +kernel) rfl, gw_of (by decide +kernel) rfl, by decide +kernel, by decide +kernel, by decide +kernel⟩
theorem mf_MA_serve : MF yX2_serve cX2_serve 2 (some .int) 1 := ⟨gw_of (by decide +kernel) rfl, gw_of (by decide +kernel) rfl, by decide +kernel, by decide +kernel, by decide +kernel⟩
theorem mf_MA_tellAge : MF yX2_tellAge cX2_tellAge 3 (some .int) 2 := ⟨gw_of (by decide +kernel) rfl, gw_of (by decide +kernel) rfl, by decide +kernel, by decide +kernel, by decide +kernel⟩
theorem mf_MA_write : MF yX2_write cX2_write 5 (some .int) 3 := ⟨gw_of (by decide +kernel) rfl, gw_of (by decide +kernel) rfl, by decide +kernel, by decide +kernel, by decide +kernel⟩
theorem mf_PT_get : MF yX3_get cX3_get 2 (some .int) 1 := ⟨gw_of (by decide +kernel) rfl, gw_of (by decide +kernel) rfl, by decide +kernel, by decide +kernel, by decide +kernel⟩
theorem mf_PT_noteBegun : MF yX3_noteBegun cX3_noteBegun 1 none 0 := ⟨gw_of (by decide +kernel) rfl, gw_of (by decide +kernel) rfl, by decide +kernel, by decide +kernel, by decide +kernel⟩
theorem mf_PT_put : MF yX3_put cX3_put 3 none 2 := ⟨gw_of (by decide +kernel) rfl, gw_of (by decide +kernel) rfl, by decide +kernel, by decide +kernel, by decide +kernel⟩
theorem mf_PT_suffer : MF yX3_suffer cX3_suffer 3 none 2 := ⟨gw_of (by decide +kernel) rfl, gw_of (by decide +kernel) rfl, by decide +kernel, by decide +kernel, by decide +kernel⟩
theorem mf_RE_branches : MF yX4_branches cX4_branches 3 (some .boolean) 3 := ⟨gw_of (by decide +kernel) rfl, gw_of (by decide +kernel) rfl, by decide +kernel, by decide +kernel, by decide +kernel⟩
theorem mf_RE_combined : MF yX4_combined cX4_combined 4 (some .int) 4 := ⟨gw_of (by decide +kernel) rfl, gw_of (by decide +kernel) rfl, by decide +kernel, by decide +kernel, by decide +kernel⟩
theorem mf_SM_isChannel : MF yX7_isChannel cX7_isChannel 1 (some .boolean) 1 := ⟨gw_of (by decide +kernel) rfl, gw_of (by decide +kernel) rfl, by decide +kernel, by decide +kernel, by decide +kernel⟩
theorem wf_MA_178 : Cond.fieldLink RX2 178 RX0 "source" "I" ∈ gw := gw_of (by decide +kernel) rfl
theorem wf_MA_189 : Cond.fieldLink RX2 189 RX3 "resting" "Z" ∈ gw := gw_of (by decide +kernel) rfl
theorem wf_MA_207 : Cond.fieldLink RX2 207 RX5 "held" "I" ∈ gw := gw_of (by decide +kernel) rfl
theorem wf_MA_210 : Cond.fieldLink RX2 210 RX5 "mark" "I" ∈ gw := gw_of (by decide +kernel) rfl
theorem wf_MA_37 : Cond.fieldLink RX2 37 RX2 "slots" "[LSeparationMonitor$Slot;" ∈ gw := gw_of (by decide +kernel) rfl
theorem wf_MA_45 : Cond.fieldLink RX2 45 RX2 "next" "I" ∈ gw := gw_of (by decide +kernel) rfl
theorem wf_MA_80 : Cond.fieldLink RX2 80 RX3 "first" "I" ∈ gw := gw_of (by decide +kernel) rfl
theorem wf_MA_9 : Cond.fieldLink RX2 9 RX2 "key" "I" ∈ gw := gw_of (by decide +kernel) rfl
theorem wi_CH_age : Cond.instanceMethod yX0_age ∈ gw := gw_of (by decide +kernel) rfl
theorem wi_CH_valueOrZero : Cond.instanceMethod yX0_valueOrZero ∈ gw := gw_of (by decide +kernel) rfl
theorem wi_CH_write : Cond.instanceMethod yX0_write ∈ gw := gw_of (by decide +kernel) rfl
theorem wi_MA_execute : Cond.instanceMethod yX2_execute ∈ gw := gw_of (by decide +kernel) rfl
theorem wi_MA_isReadable : Cond.instanceMethod yX2_isReadable ∈ gw := gw_of (by decide +kernel) rfl
theorem wi_MA_jump : Cond.instanceMethod yX2_jump ∈ gw := gw_of (by decide +kernel) rfl
theorem wi_MA_open : Cond.instanceMethod yX2_open ∈ gw := gw_of (by decide +kernel) rfl
theorem wi_MA_readInto : Cond.instanceMethod yX2_readInto ∈ gw := gw_of (by decide +kernel) rfl
theorem wi_MA_seal : Cond.instanceMethod yX2_seal ∈ gw := gw_of (by decide +kernel) rfl
theorem wi_MA_serve : Cond.instanceMethod yX2_serve ∈ gw := gw_of (by decide +kernel) rfl
theorem wi_MA_tellAge : Cond.instanceMethod yX2_tellAge ∈ gw := gw_of (by decide +kernel) rfl
theorem wi_MA_write : Cond.instanceMethod yX2_write ∈ gw := gw_of (by decide +kernel) rfl
theorem wi_PT_get : Cond.instanceMethod yX3_get ∈ gw := gw_of (by decide +kernel) rfl
theorem wi_PT_noteBegun : Cond.instanceMethod yX3_noteBegun ∈ gw := gw_of (by decide +kernel) rfl
theorem wi_PT_put : Cond.instanceMethod yX3_put ∈ gw := gw_of (by decide +kernel) rfl
theorem wi_PT_suffer : Cond.instanceMethod yX3_suffer ∈ gw := gw_of (by decide +kernel) rfl
theorem wl_CH_age : Cond.selects yX0_age.cls yX0_age yX0_age ∈ gw := gw_of (by decide +kernel) rfl
theorem wl_CH_valueOrZero : Cond.selects yX0_valueOrZero.cls yX0_valueOrZero yX0_valueOrZero ∈ gw := gw_of (by decide +kernel) rfl
theorem wl_CH_write : Cond.selects yX0_write.cls yX0_write yX0_write ∈ gw := gw_of (by decide +kernel) rfl
theorem wl_MA_execute : Cond.selects yX2_execute.cls yX2_execute yX2_execute ∈ gw := gw_of (by decide +kernel) rfl
theorem wl_MA_isReadable : Cond.selects yX2_isReadable.cls yX2_isReadable yX2_isReadable ∈ gw := gw_of (by decide +kernel) rfl
theorem wl_MA_jump : Cond.selects yX2_jump.cls yX2_jump yX2_jump ∈ gw := gw_of (by decide +kernel) rfl
theorem wl_MA_open : Cond.selects yX2_open.cls yX2_open yX2_open ∈ gw := gw_of (by decide +kernel) rfl
theorem wl_MA_readInto : Cond.selects yX2_readInto.cls yX2_readInto yX2_readInto ∈ gw := gw_of (by decide +kernel) rfl
theorem wl_MA_seal : Cond.selects yX2_seal.cls yX2_seal yX2_seal ∈ gw := gw_of (by decide +kernel) rfl
theorem wl_MA_serve : Cond.selects yX2_serve.cls yX2_serve yX2_serve ∈ gw := gw_of (by decide +kernel) rfl
theorem wl_MA_tellAge : Cond.selects yX2_tellAge.cls yX2_tellAge yX2_tellAge ∈ gw := gw_of (by decide +kernel) rfl
theorem wl_MA_write : Cond.selects yX2_write.cls yX2_write yX2_write ∈ gw := gw_of (by decide +kernel) rfl
theorem wl_PT_get : Cond.selects yX3_get.cls yX3_get yX3_get ∈ gw := gw_of (by decide +kernel) rfl
theorem wl_PT_noteBegun : Cond.selects yX3_noteBegun.cls yX3_noteBegun yX3_noteBegun ∈ gw := gw_of (by decide +kernel) rfl
theorem wl_PT_put : Cond.selects yX3_put.cls yX3_put yX3_put ∈ gw := gw_of (by decide +kernel) rfl
theorem wl_PT_suffer : Cond.selects yX3_suffer.cls yX3_suffer yX3_suffer ∈ gw := gw_of (by decide +kernel) rfl
theorem wm_MA_100 : Cond.methodLink RX2 100 yX1_rd ∈ gw := gw_of (by decide +kernel) rfl
theorem wm_MA_104 : Cond.methodLink RX2 104 yX1_f ∈ gw := gw_of (by decide +kernel) rfl
theorem wm_MA_107 : Cond.methodLink RX2 107 yX1_rs1 ∈ gw := gw_of (by decide +kernel) rfl
theorem wm_MA_110 : Cond.methodLink RX2 110 yX3_get ∈ gw := gw_of (by decide +kernel) rfl
theorem wm_MA_113 : Cond.methodLink RX2 113 yX1_rs2 ∈ gw := gw_of (by decide +kernel) rfl
theorem wm_MA_116 : Cond.methodLink RX2 116 yX1_g ∈ gw := gw_of (by decide +kernel) rfl
theorem wm_MA_119 : Cond.methodLink RX2 119 yX1_o ∈ gw := gw_of (by decide +kernel) rfl
theorem wm_MA_122 : Cond.methodLink RX2 122 yX1_immediateU ∈ gw := gw_of (by decide +kernel) rfl
theorem wm_MA_125 : Cond.methodLink RX2 125 yX3_put ∈ gw := gw_of (by decide +kernel) rfl
theorem wm_MA_129 : Cond.methodLink RX2 129 yX1_immediateJ ∈ gw := gw_of (by decide +kernel) rfl
theorem wm_MA_132 : Cond.methodLink RX2 132 yX2_jump ∈ gw := gw_of (by decide +kernel) rfl
theorem wm_MA_136 : Cond.methodLink RX2 136 yX1_immediateI ∈ gw := gw_of (by decide +kernel) rfl
theorem wm_MA_139 : Cond.methodLink RX2 139 yX4_branches ∈ gw := gw_of (by decide +kernel) rfl
theorem wm_MA_145 : Cond.methodLink RX2 145 yX1_immediateB ∈ gw := gw_of (by decide +kernel) rfl
theorem wm_MA_148 : Cond.methodLink RX2 148 yX2_readInto ∈ gw := gw_of (by decide +kernel) rfl
theorem wm_MA_151 : Cond.methodLink RX2 151 yX1_immediateS ∈ gw := gw_of (by decide +kernel) rfl
theorem wm_MA_154 : Cond.methodLink RX2 154 yX2_write ∈ gw := gw_of (by decide +kernel) rfl
theorem wm_MA_157 : Cond.methodLink RX2 157 yX4_combined ∈ gw := gw_of (by decide +kernel) rfl
theorem wm_MA_161 : Cond.methodLink RX2 161 yX2_serve ∈ gw := gw_of (by decide +kernel) rfl
theorem wm_MA_164 : Cond.methodLink RX2 164 yX2_channelAt ∈ gw := gw_of (by decide +kernel) rfl
theorem wm_MA_167 : Cond.methodLink RX2 167 yX2_isReadable ∈ gw := gw_of (by decide +kernel) rfl
theorem wm_MA_171 : Cond.methodLink RX2 171 yX0_valueOrZero ∈ gw := gw_of (by decide +kernel) rfl
theorem wm_MA_184 : Cond.methodLink RX2 184 yX0_write ∈ gw := gw_of (by decide +kernel) rfl
theorem wm_MA_192 : Cond.methodLink RX2 192 yX2_tellAge ∈ gw := gw_of (by decide +kernel) rfl
theorem wm_MA_195 : Cond.methodLink RX2 195 yX2_seal ∈ gw := gw_of (by decide +kernel) rfl
theorem wm_MA_198 : Cond.methodLink RX2 198 yX2_open ∈ gw := gw_of (by decide +kernel) rfl
theorem wm_MA_201 : Cond.methodLink RX2 201 yX0_age ∈ gw := gw_of (by decide +kernel) rfl
theorem wm_MA_70 : Cond.methodLink RX2 70 yX3_noteBegun ∈ gw := gw_of (by decide +kernel) rfl
theorem wm_MA_76 : Cond.methodLink RX2 76 yX2_fetchFault ∈ gw := gw_of (by decide +kernel) rfl
theorem wm_MA_83 : Cond.methodLink RX2 83 yX2_execute ∈ gw := gw_of (by decide +kernel) rfl
theorem wm_MA_87 : Cond.methodLink RX2 87 yX3_suffer ∈ gw := gw_of (by decide +kernel) rfl
theorem wm_MA_95 : Cond.methodLink RX2 95 yX1_isKnown ∈ gw := gw_of (by decide +kernel) rfl
theorem wn_MA_175 : Cond.methodLinkNest RX2 175 yX7_isChannel RX7 ∈ nw := nw_of (by decide +kernel) rfl
theorem wn_MA_204 : Cond.methodLinkNest RX2 204 yX7_within RX7 ∈ nw := nw_of (by decide +kernel) rfl
theorem ws_CO_immediateB : Cond.static yX1_immediateB ∈ gw := gw_of (by decide +kernel) rfl
theorem ws_CO_immediateI : Cond.static yX1_immediateI ∈ gw := gw_of (by decide +kernel) rfl
theorem ws_CO_immediateJ : Cond.static yX1_immediateJ ∈ gw := gw_of (by decide +kernel) rfl
theorem ws_CO_immediateS : Cond.static yX1_immediateS ∈ gw := gw_of (by decide +kernel) rfl
theorem ws_CO_immediateU : Cond.static yX1_immediateU ∈ gw := gw_of (by decide +kernel) rfl
theorem ws_CO_isKnown : Cond.static yX1_isKnown ∈ gw := gw_of (by decide +kernel) rfl
theorem ws_MA_channelAt : Cond.static yX2_channelAt ∈ gw := gw_of (by decide +kernel) rfl
theorem ws_MA_fetchFault : Cond.static yX2_fetchFault ∈ gw := gw_of (by decide +kernel) rfl
theorem ws_RE_branches : Cond.static yX4_branches ∈ gw := gw_of (by decide +kernel) rfl
theorem ws_RE_combined : Cond.static yX4_combined ∈ gw := gw_of (by decide +kernel) rfl
theorem ws_SM_isChannel : Cond.static yX7_isChannel ∈ gw := gw_of (by decide +kernel) rfl
section CLS
variable {l : Launch} {D : va_G} {rh : Nat → Nat} {cA : Nat → ClassId}
def f_MA_jump (p : Nat) (xb : Int32) (xc : Int32) (σ : St) : Int32 × St :=
  (0, (up (f_PT_put p xb ((σ (iP p) 5) + 4) σ) iMA 6 xc))
set_option maxHeartbeats 4000000 in
set_option maxRecDepth 100000 in
theorem c_MA_jump {p : Nat} (hp : p < 4) (xb : Int32) (xc : Int32) (σ : St) : CI l D (tyL cA) rh (rcW rh cA) NW yX2_jump cX2_jump 4 .int 1 [.ref (rh iMA), .ref (rh (iP p)), .int xb, .int xc] σ (f_MA_jump p xb xc σ).1 (f_MA_jump p xb xc σ).2 := by
  refine CI.of rfl (Nat.le_of_ble_eq_true rfl) rfl ?_
  intro p9 e s m args below meth c A Q X hend
  refine v_lv (lv' := [(0, .ref (rh iMA)), (1, .ref (rh (iP p))), (2, .int xb), (3, .int xc)]) [0, 1, 2, 3] rfl ?_
  refine v_aload_n X 1 dX2_jump_0 rfl rfl ?_
  refine v_iload_n X 2 dX2_jump_1 rfl rfl ?_
  refine v_aload_n X 1 dX2_jump_2 rfl rfl ?_
  refine v_getI (i := (iP p)) (k := 5) X (lt_PT hp) (sh_PT hp) rfl in_PT (by decide) wf_MA_73 rfl (fun _ => rfl) dX2_jump_3 ?_
  refine v_iconst (v := 4) X dX2_jump_6 (by decide) ?_
  refine v_iadd X dX2_jump_7 ?_
  refine v_callV_CV (rest := []) X [.int xb, .int ((σ (iP p) 5) + 4)] (c_PT_put hp xb ((σ (iP p) 5) + 4) σ ) mf_PT_put wi_PT_put wl_PT_put (lt_PT hp) (sh_PT hp) rfl wm_MA_125 rfl ⟨by decide, by decide⟩ (Nat.le_of_ble_eq_true rfl) ⟨by decide, by decide⟩ dX2_jump_8 ?_
  generalize hg8 : (f_PT_put p xb ((σ (iP p) 5) + 4) σ) = g8
  refine v_aload_n X 0 dX2_jump_11 rfl rfl ?_
  refine v_iload_n X 3 dX2_jump_12 rfl rfl ?_
  refine v_put (i := iMA) (k := 6) (x := xc) (ty := .int) X (lt_MA ) (sh_MA ) rfl in_MA (by decide) tyX2 tyX2_ok nX2 wf_MA_45 rfl rfl rfl rfl rfl (fun _ => Nat.le_of_ble_eq_true rfl) (fun _ _ => rfl) dX2_jump_13 ?_
  generalize hg13 : (up g8 iMA 6 xc) = g13
  refine v_iconst (v := 0) X dX2_jump_16 (by decide) ?_
  have e9 : f_MA_jump p xb xc σ = (0, g13) := by subst hg8; subst hg13; simp only [f_MA_jump]
  exact v_endI hend dX2_jump_17 (by rw [e9]) (by rw [e9])
theorem I_MA_jump (p : Nat) (xb : Int32) (xc : Int32) {σ : St} (hI : Ic σ) : Ic (f_MA_jump p xb xc σ).2 := by
  unfold f_MA_jump
  exact (Ic.upMA (I_PT_put p xb ((σ (iP p) 5) + 4) hI))
def f_MA_readInto (p : Nat) (xb : Int32) (xc : Int32) (σ : St) : Int32 × St :=
  (if (xc &&& 3) = 0 then (if (f_PT_holds p xc σ) = 0 then (if (f_MA_isReadable (f_MA_channelAt xc) p σ) = 0 then (3, σ) else (0, (f_PT_put p xb (f_CH_valueOrZero ((f_MA_channelAt xc)).toNatClampNeg σ) σ))) else (0, (f_PT_put p xb (σ iWO (((σ (iP p) 1) + (xc / 4))).toNatClampNeg) σ))) else (2, σ))
set_option maxHeartbeats 4000000 in
set_option maxRecDepth 100000 in
theorem c_MA_readInto {p : Nat} (hp : p < 4) (xb : Int32) (xc : Int32) (σ : St) (hI : Ic σ) : CI l D (tyL cA) rh (rcW rh cA) NW yX2_readInto cX2_readInto 5 .int 2 [.ref (rh iMA), .ref (rh (iP p)), .int xb, .int xc] σ (f_MA_readInto p xb xc σ).1 (f_MA_readInto p xb xc σ).2 := by
  refine CI.of rfl (Nat.le_of_ble_eq_true rfl) rfl ?_
  intro p9 e s m args below meth c A Q X hend
  refine v_lv (lv' := [(0, .ref (rh iMA)), (1, .ref (rh (iP p))), (2, .int xb), (3, .int xc)]) [0, 1, 2, 3] rfl ?_
  refine v_iload_n X 3 dX2_readInto_0 rfl rfl ?_
  refine v_iconst (v := 3) X dX2_readInto_1 (by decide) ?_
  refine v_iand X dX2_readInto_2 ?_
  refine v_if_eq X 8 dX2_readInto_3 (by decide) (fun h3 => ?_) (fun h3 => ?_)
  ·
    refine v_aload_n X 1 dX2_readInto_8 rfl rfl ?_
    refine v_iload_n X 3 dX2_readInto_9 rfl rfl ?_
    refine v_callV_CI (rest := []) X [.int xc] (c_PT_holds hp xc σ ) mf_PT_holds wi_PT_holds wl_PT_holds (lt_PT hp) (sh_PT hp) rfl wm_MA_91 rfl ⟨by decide, by decide⟩ (Nat.le_of_ble_eq_true rfl) ⟨by decide, by decide⟩ dX2_readInto_10 ?_
    refine v_if_eq X 36 dX2_readInto_13 (by decide) (fun h13 => ?_) (fun h13 => ?_)
    ·
      refine v_iload_n X 3 dX2_readInto_36 rfl rfl ?_
      refine v_callS_CI (rest := []) X [.int xc] (c_MA_channelAt xc σ ) mf_MA_channelAt ws_MA_channelAt wm_MA_164 rfl ⟨by decide, by decide⟩ (Nat.le_of_ble_eq_true rfl) ⟨by decide, by decide⟩ dX2_readInto_37 ?_
      refine v_istore (lv' := [(4, .int (f_MA_channelAt xc)), (0, .ref (rh iMA)), (1, .ref (rh (iP p))), (2, .int xb), (3, .int xc)]) X dX2_readInto_40 (by decide) rfl ?_
      refine v_aload_n X 1 dX2_readInto_42 rfl rfl ?_
      refine v_iload X 0 dX2_readInto_43 rfl ?_
      refine v_aload_n X 2 dX2_readInto_45 rfl rfl ?_
      refine v_callV_CI (rest := []) X [.int (f_MA_channelAt xc), .ref (rh (iP p))] (c_MA_isReadable (f_MA_channelAt xc) hp σ ) mf_MA_isReadable wi_MA_isReadable wl_MA_isReadable (lt_MA ) (sh_MA ) rfl wm_MA_167 rfl ⟨by decide, by decide⟩ (Nat.le_of_ble_eq_true rfl) ⟨by decide, by decide⟩ dX2_readInto_46 ?_
      refine v_if_ne X 54 dX2_readInto_49 (by decide) (fun h49 => ?_) (fun h49 => ?_)
      ·
        refine v_aload_n X 2 dX2_readInto_54 rfl rfl ?_
        refine v_iload_n X 3 dX2_readInto_55 rfl rfl ?_
        refine v_aload_n X 1 dX2_readInto_56 rfl rfl ?_
        refine v_getR (j := iAC) (i := iMA) (k := 3) X (lt_MA ) (sh_MA ) rfl in_MA (by decide) wf_MA_30 rfl (fun _ => rfl) dX2_readInto_57 ?_
        refine v_iload X 0 dX2_readInto_60 rfl ?_
        have hv62 : vp_in (f_MA_channelAt xc) 4 := (rd_in h49)
        refine v_aald (i := iAC) (t0 := 2) (g := iC) X (lt_ACH ) (sh_ACH ) rfl hv62 dX2_readInto_62 ?_
        refine v_callV_CI (rest := [.int xb, .ref (rh (iP p))]) X [] (c_CH_valueOrZero (vin_lt hv62) σ ) mf_CH_valueOrZero wi_CH_valueOrZero wl_CH_valueOrZero (lt_CH (vin_lt hv62)) (sh_CH (vin_lt hv62)) rfl wm_MA_171 rfl ⟨by decide, by decide⟩ (Nat.le_of_ble_eq_true rfl) ⟨by decide, by decide⟩ dX2_readInto_63 ?_
        refine v_callV_CV (rest := []) X [.int xb, .int (f_CH_valueOrZero ((f_MA_channelAt xc)).toNatClampNeg σ)] (c_PT_put hp xb (f_CH_valueOrZero ((f_MA_channelAt xc)).toNatClampNeg σ) σ ) mf_PT_put wi_PT_put wl_PT_put (lt_PT hp) (sh_PT hp) rfl wm_MA_125 rfl ⟨by decide, by decide⟩ (Nat.le_of_ble_eq_true rfl) ⟨by decide, by decide⟩ dX2_readInto_66 ?_
        generalize hg66 : (f_PT_put p xb (f_CH_valueOrZero ((f_MA_channelAt xc)).toNatClampNeg σ) σ) = g66
        have hI66 : Ic g66 := by rw [← hg66]; exact (I_PT_put p xb (f_CH_valueOrZero ((f_MA_channelAt xc)).toNatClampNeg σ) hI)
        refine v_iconst (v := 0) X dX2_readInto_69 (by decide) ?_
        have e9 : f_MA_readInto p xb xc σ = (0, g66) := by subst hg66; simp only [f_MA_readInto, if_pos h3, if_pos h13, if_neg h49]
        exact v_endI hend dX2_readInto_70 (by rw [e9]) (by rw [e9])
      ·
        refine v_iconst (v := 3) X dX2_readInto_52 (by decide) ?_
        have e9 : f_MA_readInto p xb xc σ = (3, σ) := by simp only [f_MA_readInto, if_pos h3, if_pos h13, if_pos h49]
        exact v_endI hend dX2_readInto_53 (by rw [e9]) (by rw [e9])
    ·
      refine v_aload_n X 1 dX2_readInto_16 rfl rfl ?_
      refine v_iload_n X 2 dX2_readInto_17 rfl rfl ?_
      refine v_aload_n X 0 dX2_readInto_18 rfl rfl ?_
      refine v_getR (j := iWO) (i := iMA) (k := 1) X (lt_MA ) (sh_MA ) rfl in_MA (by decide) wf_MA_15 rfl (fun _ => rfl) dX2_readInto_19 ?_
      refine v_aload_n X 1 dX2_readInto_22 rfl rfl ?_
      refine v_getI (i := (iP p)) (k := 1) X (lt_PT hp) (sh_PT hp) rfl in_PT (by decide) wf_MA_80 rfl (fun _ => rfl) dX2_readInto_23 ?_
      refine v_iload_n X 3 dX2_readInto_26 rfl rfl ?_
      refine v_iconst (v := 4) X dX2_readInto_27 (by decide) ?_
      refine v_idiv X (by decide) dX2_readInto_28 ?_
      refine v_iadd X dX2_readInto_29 ?_
      have hv30 : vp_in ((σ (iP p) 1) + (xc / 4)) 96 := (hold_in hI hp h13)
      refine v_iald (i := iWO) (t0 := 0) X (lt_WO ) (sh_WO ) rfl hv30 dX2_readInto_30 ?_
      refine v_callV_CV (rest := []) X [.int xb, .int (σ iWO (((σ (iP p) 1) + (xc / 4))).toNatClampNeg)] (c_PT_put hp xb (σ iWO (((σ (iP p) 1) + (xc / 4))).toNatClampNeg) σ ) mf_PT_put wi_PT_put wl_PT_put (lt_PT hp) (sh_PT hp) rfl wm_MA_125 rfl ⟨by decide, by decide⟩ (Nat.le_of_ble_eq_true rfl) ⟨by decide, by decide⟩ dX2_readInto_31 ?_
      generalize hg31 : (f_PT_put p xb (σ iWO (((σ (iP p) 1) + (xc / 4))).toNatClampNeg) σ) = g31
      have hI31 : Ic g31 := by rw [← hg31]; exact (I_PT_put p xb (σ iWO (((σ (iP p) 1) + (xc / 4))).toNatClampNeg) hI)
      refine v_iconst (v := 0) X dX2_readInto_34 (by decide) ?_
      have e9 : f_MA_readInto p xb xc σ = (0, g31) := by subst hg31; simp only [f_MA_readInto, if_pos h3, if_neg h13]
      exact v_endI hend dX2_readInto_35 (by rw [e9]) (by rw [e9])
  ·
    refine v_iconst (v := 2) X dX2_readInto_6 (by decide) ?_
    have e9 : f_MA_readInto p xb xc σ = (2, σ) := by simp only [f_MA_readInto, if_neg h3]
    exact v_endI hend dX2_readInto_7 (by rw [e9]) (by rw [e9])
theorem I_MA_readInto (p : Nat) (xb : Int32) (xc : Int32) {σ : St} (hI : Ic σ) : Ic (f_MA_readInto p xb xc σ).2 := by
  unfold f_MA_readInto
  exact (ic_ite2 (fun _ => (ic_ite2 (fun _ => (ic_ite2 (fun _ => hI) (fun _ => (I_PT_put p xb (f_CH_valueOrZero ((f_MA_channelAt xc)).toNatClampNeg σ) hI)))) (fun _ => (I_PT_put p xb (σ iWO (((σ (iP p) 1) + (xc / 4))).toNatClampNeg) hI)))) (fun _ => hI))
def f_MA_write (p : Nat) (xb : Int32) (xc : Int32) (σ : St) : Int32 × St :=
  (if (xb &&& 3) = 0 then (if (f_PT_holds p xb σ) = 0 then (if (f_SM_isChannel (f_MA_channelAt xb)) = 0 then (3, σ) else (if (σ (iC ((f_MA_channelAt xb)).toNatClampNeg) 0) = (σ (iP p) 0) then (0, (f_CH_write ((f_MA_channelAt xb)).toNatClampNeg xc (σ iMA 5) σ)) else (3, σ))) else (0, (up σ iWO (((σ (iP p) 1) + (xb / 4))).toNatClampNeg xc))) else (2, σ))
set_option maxHeartbeats 4000000 in
set_option maxRecDepth 100000 in
theorem c_MA_write {p : Nat} (hp : p < 4) (xb : Int32) (xc : Int32) (σ : St) (hI : Ic σ) : CI l D (tyL cA) rh (rcW rh cA) NW yX2_write cX2_write 5 .int 2 [.ref (rh iMA), .ref (rh (iP p)), .int xb, .int xc] σ (f_MA_write p xb xc σ).1 (f_MA_write p xb xc σ).2 := by
  refine CI.of rfl (Nat.le_of_ble_eq_true rfl) rfl ?_
  intro p9 e s m args below meth c A Q X hend
  refine v_lv (lv' := [(0, .ref (rh iMA)), (1, .ref (rh (iP p))), (2, .int xb), (3, .int xc)]) [0, 1, 2, 3] rfl ?_
  refine v_iload_n X 2 dX2_write_0 rfl rfl ?_
  refine v_iconst (v := 3) X dX2_write_1 (by decide) ?_
  refine v_iand X dX2_write_2 ?_
  refine v_if_eq X 8 dX2_write_3 (by decide) (fun h3 => ?_) (fun h3 => ?_)
  ·
    refine v_aload_n X 1 dX2_write_8 rfl rfl ?_
    refine v_iload_n X 2 dX2_write_9 rfl rfl ?_
    refine v_callV_CI (rest := []) X [.int xb] (c_PT_holds hp xb σ ) mf_PT_holds wi_PT_holds wl_PT_holds (lt_PT hp) (sh_PT hp) rfl wm_MA_91 rfl ⟨by decide, by decide⟩ (Nat.le_of_ble_eq_true rfl) ⟨by decide, by decide⟩ dX2_write_10 ?_
    refine v_if_eq X 32 dX2_write_13 (by decide) (fun h13 => ?_) (fun h13 => ?_)
    ·
      refine v_iload_n X 2 dX2_write_32 rfl rfl ?_
      refine v_callS_CI (rest := []) X [.int xb] (c_MA_channelAt xb σ ) mf_MA_channelAt ws_MA_channelAt wm_MA_164 rfl ⟨by decide, by decide⟩ (Nat.le_of_ble_eq_true rfl) ⟨by decide, by decide⟩ dX2_write_33 ?_
      refine v_istore (lv' := [(4, .int (f_MA_channelAt xb)), (0, .ref (rh iMA)), (1, .ref (rh (iP p))), (2, .int xb), (3, .int xc)]) X dX2_write_36 (by decide) rfl ?_
      refine v_iload X 0 dX2_write_38 rfl ?_
      refine v_callSN_CI (rest := []) X [.int (f_MA_channelAt xb)] (c_SM_isChannel (f_MA_channelAt xb) σ ) mf_SM_isChannel ws_SM_isChannel wn_MA_175 rfl ⟨by decide, by decide⟩ (Nat.le_of_ble_eq_true rfl) ⟨by decide, by decide⟩ dX2_write_40 ?_
      refine v_if_eq X 63 dX2_write_43 (by decide) (fun h43 => ?_) (fun h43 => ?_)
      ·
        refine v_iconst (v := 3) X dX2_write_63 (by decide) ?_
        have e9 : f_MA_write p xb xc σ = (3, σ) := by simp only [f_MA_write, if_pos h3, if_pos h13, if_pos h43]
        exact v_endI hend dX2_write_64 (by rw [e9]) (by rw [e9])
      ·
        refine v_aload_n X 1 dX2_write_46 rfl rfl ?_
        refine v_getR (j := iAC) (i := iMA) (k := 3) X (lt_MA ) (sh_MA ) rfl in_MA (by decide) wf_MA_30 rfl (fun _ => rfl) dX2_write_47 ?_
        refine v_iload X 0 dX2_write_50 rfl ?_
        have hv52 : vp_in (f_MA_channelAt xb) 4 := (ch_in h43)
        refine v_aald (i := iAC) (t0 := 2) (g := iC) X (lt_ACH ) (sh_ACH ) rfl hv52 dX2_write_52 ?_
        refine v_getI (i := (iC ((f_MA_channelAt xb)).toNatClampNeg)) (k := 0) X (lt_CH (vin_lt hv52)) (sh_CH (vin_lt hv52)) rfl in_CH (by decide) wf_MA_178 rfl (fun _ => rfl) dX2_write_53 ?_
        refine v_aload_n X 2 dX2_write_56 rfl rfl ?_
        refine v_getI (i := (iP p)) (k := 0) X (lt_PT hp) (sh_PT hp) rfl in_PT (by decide) wf_MA_181 rfl (fun _ => rfl) dX2_write_57 ?_
        refine v_icmp_eq X 65 dX2_write_60 (by decide) (fun h60 => ?_) (fun h60 => ?_)
        ·
          refine v_aload_n X 1 dX2_write_65 rfl rfl ?_
          refine v_getR (j := iAC) (i := iMA) (k := 3) X (lt_MA ) (sh_MA ) rfl in_MA (by decide) wf_MA_30 rfl (fun _ => rfl) dX2_write_66 ?_
          refine v_iload X 0 dX2_write_69 rfl ?_
          have hv71 : vp_in (f_MA_channelAt xb) 4 := (ch_in h43)
          refine v_aald (i := iAC) (t0 := 2) (g := iC) X (lt_ACH ) (sh_ACH ) rfl hv71 dX2_write_71 ?_
          refine v_iload_n X 4 dX2_write_72 rfl rfl ?_
          refine v_aload_n X 1 dX2_write_73 rfl rfl ?_
          refine v_getI (i := iMA) (k := 5) X (lt_MA ) (sh_MA ) rfl in_MA (by decide) wf_MA_42 rfl (fun _ => rfl) dX2_write_74 ?_
          refine v_callV_CV (rest := []) X [.int xc, .int (σ iMA 5)] (c_CH_write (vin_lt hv71) xc (σ iMA 5) σ ) mf_CH_write wi_CH_write wl_CH_write (lt_CH (vin_lt hv71)) (sh_CH (vin_lt hv71)) rfl wm_MA_184 rfl ⟨by decide, by decide⟩ (Nat.le_of_ble_eq_true rfl) ⟨by decide, by decide⟩ dX2_write_77 ?_
          generalize hg77 : (f_CH_write ((f_MA_channelAt xb)).toNatClampNeg xc (σ iMA 5) σ) = g77
          have hI77 : Ic g77 := by rw [← hg77]; exact (I_CH_write ((f_MA_channelAt xb)).toNatClampNeg xc (σ iMA 5) hI)
          refine v_iconst (v := 0) X dX2_write_80 (by decide) ?_
          have e9 : f_MA_write p xb xc σ = (0, g77) := by subst hg77; simp only [f_MA_write, if_pos h3, if_pos h13, if_neg h43, if_pos h60]
          exact v_endI hend dX2_write_81 (by rw [e9]) (by rw [e9])
        ·
          refine v_iconst (v := 3) X dX2_write_63 (by decide) ?_
          have e9 : f_MA_write p xb xc σ = (3, σ) := by simp only [f_MA_write, if_pos h3, if_pos h13, if_neg h43, if_neg h60]
          exact v_endI hend dX2_write_64 (by rw [e9]) (by rw [e9])
    ·
      refine v_aload_n X 0 dX2_write_16 rfl rfl ?_
      refine v_getR (j := iWO) (i := iMA) (k := 1) X (lt_MA ) (sh_MA ) rfl in_MA (by decide) wf_MA_15 rfl (fun _ => rfl) dX2_write_17 ?_
      refine v_aload_n X 1 dX2_write_20 rfl rfl ?_
      refine v_getI (i := (iP p)) (k := 1) X (lt_PT hp) (sh_PT hp) rfl in_PT (by decide) wf_MA_80 rfl (fun _ => rfl) dX2_write_21 ?_
      refine v_iload_n X 2 dX2_write_24 rfl rfl ?_
      refine v_iconst (v := 4) X dX2_write_25 (by decide) ?_
      refine v_idiv X (by decide) dX2_write_26 ?_
      refine v_iadd X dX2_write_27 ?_
      refine v_iload_n X 3 dX2_write_28 rfl rfl ?_
      have hv29 : vp_in ((σ (iP p) 1) + (xb / 4)) 96 := (hold_in hI hp h13)
      refine v_iast (i := iWO) (t0 := 0) X (lt_WO ) (sh_WO ) rfl hv29 dX2_write_29 ?_
      generalize hg29 : (up σ iWO (((σ (iP p) 1) + (xb / 4))).toNatClampNeg xc) = g29
      have hI29 : Ic g29 := by rw [← hg29]; exact (Ic.upWO hI)
      refine v_iconst (v := 0) X dX2_write_30 (by decide) ?_
      have e9 : f_MA_write p xb xc σ = (0, g29) := by subst hg29; simp only [f_MA_write, if_pos h3, if_neg h13]
      exact v_endI hend dX2_write_31 (by rw [e9]) (by rw [e9])
  ·
    refine v_iconst (v := 2) X dX2_write_6 (by decide) ?_
    have e9 : f_MA_write p xb xc σ = (2, σ) := by simp only [f_MA_write, if_neg h3]
    exact v_endI hend dX2_write_7 (by rw [e9]) (by rw [e9])
theorem I_MA_write (p : Nat) (xb : Int32) (xc : Int32) {σ : St} (hI : Ic σ) : Ic (f_MA_write p xb xc σ).2 := by
  unfold f_MA_write
  exact (ic_ite2 (fun _ => (ic_ite2 (fun _ => (ic_ite2 (fun _ => hI) (fun _ => (ic_ite2 (fun _ => (I_CH_write ((f_MA_channelAt xb)).toNatClampNeg xc (σ iMA 5) hI)) (fun _ => hI))))) (fun _ => (Ic.upWO hI)))) (fun _ => hI))
def f_MA_tellAge (p : Nat) (xb : Int32) (σ : St) : Int32 × St :=
  (if (f_MA_isReadable xb p σ) = 0 then (3, σ) else (0, (f_PT_put p 10 (f_CH_age (xb).toNatClampNeg (σ iMA 5) σ) σ)))
set_option maxHeartbeats 4000000 in
set_option maxRecDepth 100000 in
theorem c_MA_tellAge {p : Nat} (hp : p < 4) (xb : Int32) (σ : St) : CI l D (tyL cA) rh (rcW rh cA) NW yX2_tellAge cX2_tellAge 3 .int 1 [.ref (rh iMA), .ref (rh (iP p)), .int xb] σ (f_MA_tellAge p xb σ).1 (f_MA_tellAge p xb σ).2 := by
  refine CI.of rfl (Nat.le_of_ble_eq_true rfl) rfl ?_
  intro p9 e s m args below meth c A Q X hend
  refine v_lv (lv' := [(0, .ref (rh iMA)), (1, .ref (rh (iP p))), (2, .int xb)]) [0, 1, 2] rfl ?_
  refine v_aload_n X 0 dX2_tellAge_0 rfl rfl ?_
  refine v_iload_n X 2 dX2_tellAge_1 rfl rfl ?_
  refine v_aload_n X 1 dX2_tellAge_2 rfl rfl ?_
  refine v_callV_CI (rest := []) X [.int xb, .ref (rh (iP p))] (c_MA_isReadable xb hp σ ) mf_MA_isReadable wi_MA_isReadable wl_MA_isReadable (lt_MA ) (sh_MA ) rfl wm_MA_167 rfl ⟨by decide, by decide⟩ (Nat.le_of_ble_eq_true rfl) ⟨by decide, by decide⟩ dX2_tellAge_3 ?_
  refine v_if_ne X 11 dX2_tellAge_6 (by decide) (fun h6 => ?_) (fun h6 => ?_)
  ·
    refine v_aload_n X 1 dX2_tellAge_11 rfl rfl ?_
    refine v_bipush (v := 10) X dX2_tellAge_12 (by decide) ?_
    refine v_aload_n X 0 dX2_tellAge_14 rfl rfl ?_
    refine v_getR (j := iAC) (i := iMA) (k := 3) X (lt_MA ) (sh_MA ) rfl in_MA (by decide) wf_MA_30 rfl (fun _ => rfl) dX2_tellAge_15 ?_
    refine v_iload_n X 2 dX2_tellAge_18 rfl rfl ?_
    have hv19 : vp_in xb 4 := (rd_in h6)
    refine v_aald (i := iAC) (t0 := 2) (g := iC) X (lt_ACH ) (sh_ACH ) rfl hv19 dX2_tellAge_19 ?_
    refine v_aload_n X 0 dX2_tellAge_20 rfl rfl ?_
    refine v_getI (i := iMA) (k := 5) X (lt_MA ) (sh_MA ) rfl in_MA (by decide) wf_MA_42 rfl (fun _ => rfl) dX2_tellAge_21 ?_
    refine v_callV_CI (rest := [.int 10, .ref (rh (iP p))]) X [.int (σ iMA 5)] (c_CH_age (vin_lt hv19) (σ iMA 5) σ ) mf_CH_age wi_CH_age wl_CH_age (lt_CH (vin_lt hv19)) (sh_CH (vin_lt hv19)) rfl wm_MA_201 rfl ⟨by decide, by decide⟩ (Nat.le_of_ble_eq_true rfl) ⟨by decide, by decide⟩ dX2_tellAge_24 ?_
    refine v_callV_CV (rest := []) X [.int 10, .int (f_CH_age (xb).toNatClampNeg (σ iMA 5) σ)] (c_PT_put hp 10 (f_CH_age (xb).toNatClampNeg (σ iMA 5) σ) σ ) mf_PT_put wi_PT_put wl_PT_put (lt_PT hp) (sh_PT hp) rfl wm_MA_125 rfl ⟨by decide, by decide⟩ (Nat.le_of_ble_eq_true rfl) ⟨by decide, by decide⟩ dX2_tellAge_27 ?_
    generalize hg27 : (f_PT_put p 10 (f_CH_age (xb).toNatClampNeg (σ iMA 5) σ) σ) = g27
    refine v_iconst (v := 0) X dX2_tellAge_30 (by decide) ?_
    have e9 : f_MA_tellAge p xb σ = (0, g27) := by subst hg27; simp only [f_MA_tellAge, if_neg h6]
    exact v_endI hend dX2_tellAge_31 (by rw [e9]) (by rw [e9])
  ·
    refine v_iconst (v := 3) X dX2_tellAge_9 (by decide) ?_
    have e9 : f_MA_tellAge p xb σ = (3, σ) := by simp only [f_MA_tellAge, if_pos h6]
    exact v_endI hend dX2_tellAge_10 (by rw [e9]) (by rw [e9])
theorem I_MA_tellAge (p : Nat) (xb : Int32) {σ : St} (hI : Ic σ) : Ic (f_MA_tellAge p xb σ).2 := by
  unfold f_MA_tellAge
  exact (ic_ite2 (fun _ => hI) (fun _ => (I_PT_put p 10 (f_CH_age (xb).toNatClampNeg (σ iMA 5) σ) hI)))
def f_MA_seal (p : Nat) (xb : Int32) (xc : Int32) (σ : St) : Int32 × St :=
  (if (f_SM_within xb 0 3) = 0 then (3, σ) else (0, (up (up σ (iS (xb).toNatClampNeg) 0 (xc ^^^ (f_SM_mix (σ iMA 0) (σ (iP p) 4)))) (iS (xb).toNatClampNeg) 1 (f_SM_mix (f_SM_mix ((up σ (iS (xb).toNatClampNeg) 0 (xc ^^^ (f_SM_mix (σ iMA 0) (σ (iP p) 4)))) iMA 0) xc) ((up σ (iS (xb).toNatClampNeg) 0 (xc ^^^ (f_SM_mix (σ iMA 0) (σ (iP p) 4)))) (iP p) 4)))))
set_option maxHeartbeats 4000000 in
set_option maxRecDepth 100000 in
theorem c_MA_seal {p : Nat} (hp : p < 4) (xb : Int32) (xc : Int32) (σ : St) : CI l D (tyL cA) rh (rcW rh cA) NW yX2_seal cX2_seal 4 .int 1 [.ref (rh iMA), .ref (rh (iP p)), .int xb, .int xc] σ (f_MA_seal p xb xc σ).1 (f_MA_seal p xb xc σ).2 := by
  refine CI.of rfl (Nat.le_of_ble_eq_true rfl) rfl ?_
  intro p9 e s m args below meth c A Q X hend
  refine v_lv (lv' := [(0, .ref (rh iMA)), (1, .ref (rh (iP p))), (2, .int xb), (3, .int xc)]) [0, 1, 2, 3] rfl ?_
  refine v_iload_n X 2 dX2_seal_0 rfl rfl ?_
  refine v_iconst (v := 0) X dX2_seal_1 (by decide) ?_
  refine v_iconst (v := 3) X dX2_seal_2 (by decide) ?_
  refine v_callSN_CI (rest := []) X [.int xb, .int 0, .int 3] (c_SM_within xb 0 3 σ ) mf_SM_within ws_SM_within wn_MA_204 rfl ⟨by decide, by decide⟩ (Nat.le_of_ble_eq_true rfl) ⟨by decide, by decide⟩ dX2_seal_3 ?_
  refine v_if_ne X 11 dX2_seal_6 (by decide) (fun h6 => ?_) (fun h6 => ?_)
  ·
    refine v_aload_n X 0 dX2_seal_11 rfl rfl ?_
    refine v_getR (j := iAS) (i := iMA) (k := 4) X (lt_MA ) (sh_MA ) rfl in_MA (by decide) wf_MA_37 rfl (fun _ => rfl) dX2_seal_12 ?_
    refine v_iload_n X 2 dX2_seal_15 rfl rfl ?_
    have hv16 : vp_in xb 4 := (wi_in h6)
    refine v_aald (i := iAS) (t0 := 3) (g := iS) X (lt_ASL ) (sh_ASL ) rfl hv16 dX2_seal_16 ?_
    refine v_iload_n X 3 dX2_seal_17 rfl rfl ?_
    refine v_aload_n X 0 dX2_seal_18 rfl rfl ?_
    refine v_getI (i := iMA) (k := 0) X (lt_MA ) (sh_MA ) rfl in_MA (by decide) wf_MA_9 rfl (fun _ => rfl) dX2_seal_19 ?_
    refine v_aload_n X 1 dX2_seal_22 rfl rfl ?_
    refine v_getI (i := (iP p)) (k := 4) X (lt_PT hp) (sh_PT hp) rfl in_PT (by decide) wf_MA_63 rfl (fun _ => rfl) dX2_seal_23 ?_
    refine v_callSN_CI (rest := [.int xc, .ref (rh (iS (xb).toNatClampNeg))]) X [.int (σ iMA 0), .int (σ (iP p) 4)] (c_SM_mix (σ iMA 0) (σ (iP p) 4) σ ) mf_SM_mix ws_SM_mix wn_MA_66 rfl ⟨by decide, by decide⟩ (Nat.le_of_ble_eq_true rfl) ⟨by decide, by decide⟩ dX2_seal_26 ?_
    refine v_ixor X dX2_seal_29 ?_
    refine v_put (i := (iS (xb).toNatClampNeg)) (k := 0) (x := (xc ^^^ (f_SM_mix (σ iMA 0) (σ (iP p) 4)))) (ty := .int) X (lt_SL (vin_lt hv16)) (sh_SL (vin_lt hv16)) rfl in_SL (by decide) tyX5 tyX5_ok nX5 wf_MA_207 rfl rfl rfl rfl rfl (fun _ => Nat.le_of_ble_eq_true rfl) (fun _ _ => rfl) dX2_seal_30 ?_
    generalize hg30 : (up σ (iS (xb).toNatClampNeg) 0 (xc ^^^ (f_SM_mix (σ iMA 0) (σ (iP p) 4)))) = g30
    refine v_aload_n X 0 dX2_seal_33 rfl rfl ?_
    refine v_getR (j := iAS) (i := iMA) (k := 4) X (lt_MA ) (sh_MA ) rfl in_MA (by decide) wf_MA_37 rfl (fun _ => rfl) dX2_seal_34 ?_
    refine v_iload_n X 2 dX2_seal_37 rfl rfl ?_
    have hv38 : vp_in xb 4 := (wi_in h6)
    refine v_aald (i := iAS) (t0 := 3) (g := iS) X (lt_ASL ) (sh_ASL ) rfl hv38 dX2_seal_38 ?_
    refine v_aload_n X 0 dX2_seal_39 rfl rfl ?_
    refine v_getI (i := iMA) (k := 0) X (lt_MA ) (sh_MA ) rfl in_MA (by decide) wf_MA_9 rfl (fun _ => rfl) dX2_seal_40 ?_
    refine v_iload_n X 3 dX2_seal_43 rfl rfl ?_
    refine v_callSN_CI (rest := [.ref (rh (iS (xb).toNatClampNeg))]) X [.int (g30 iMA 0), .int xc] (c_SM_mix (g30 iMA 0) xc g30 ) mf_SM_mix ws_SM_mix wn_MA_66 rfl ⟨by decide, by decide⟩ (Nat.le_of_ble_eq_true rfl) ⟨by decide, by decide⟩ dX2_seal_44 ?_
    refine v_aload_n X 1 dX2_seal_47 rfl rfl ?_
    refine v_getI (i := (iP p)) (k := 4) X (lt_PT hp) (sh_PT hp) rfl in_PT (by decide) wf_MA_63 rfl (fun _ => rfl) dX2_seal_48 ?_
    refine v_callSN_CI (rest := [.ref (rh (iS (xb).toNatClampNeg))]) X [.int (f_SM_mix (g30 iMA 0) xc), .int (g30 (iP p) 4)] (c_SM_mix (f_SM_mix (g30 iMA 0) xc) (g30 (iP p) 4) g30 ) mf_SM_mix ws_SM_mix wn_MA_66 rfl ⟨by decide, by decide⟩ (Nat.le_of_ble_eq_true rfl) ⟨by decide, by decide⟩ dX2_seal_51 ?_
    refine v_put (i := (iS (xb).toNatClampNeg)) (k := 1) (x := (f_SM_mix (f_SM_mix (g30 iMA 0) xc) (g30 (iP p) 4))) (ty := .int) X (lt_SL (vin_lt hv38)) (sh_SL (vin_lt hv38)) rfl in_SL (by decide) tyX5 tyX5_ok nX5 wf_MA_210 rfl rfl rfl rfl rfl (fun _ => Nat.le_of_ble_eq_true rfl) (fun _ _ => rfl) dX2_seal_54 ?_
    generalize hg54 : (up g30 (iS (xb).toNatClampNeg) 1 (f_SM_mix (f_SM_mix (g30 iMA 0) xc) (g30 (iP p) 4))) = g54
    refine v_iconst (v := 0) X dX2_seal_57 (by decide) ?_
    have e9 : f_MA_seal p xb xc σ = (0, g54) := by subst hg30; subst hg54; simp only [f_MA_seal, if_neg h6]
    exact v_endI hend dX2_seal_58 (by rw [e9]) (by rw [e9])
  ·
    refine v_iconst (v := 3) X dX2_seal_9 (by decide) ?_
    have e9 : f_MA_seal p xb xc σ = (3, σ) := by simp only [f_MA_seal, if_pos h6]
    exact v_endI hend dX2_seal_10 (by rw [e9]) (by rw [e9])
theorem I_MA_seal (p : Nat) (xb : Int32) (xc : Int32) {σ : St} (hI : Ic σ) : Ic (f_MA_seal p xb xc σ).2 := by
  unfold f_MA_seal
  exact (ic_ite2 (fun _ => hI) (fun _ => (Ic.upSL (Ic.upSL hI))))
def f_MA_open (p : Nat) (xb : Int32) (σ : St) : Int32 × St :=
  (if (f_SM_within xb 0 3) = 0 then (3, σ) else (if ((if (σ (iS (xb).toNatClampNeg) 1) = (f_SM_mix (f_SM_mix (σ iMA 0) ((σ (iS (xb).toNatClampNeg) 0) ^^^ (f_SM_mix (σ iMA 0) (σ (iP p) 4)))) (σ (iP p) 4)) then 1 else 0) : Int32) = 0 then (0, (f_PT_put p 10 (0 : Int32) σ)) else (0, (f_PT_put p 10 (1 : Int32) (f_PT_put p 11 ((σ (iS (xb).toNatClampNeg) 0) ^^^ (f_SM_mix (σ iMA 0) (σ (iP p) 4))) σ)))))
set_option maxHeartbeats 4000000 in
set_option maxRecDepth 100000 in
theorem c_MA_open {p : Nat} (hp : p < 4) (xb : Int32) (σ : St) : CI l D (tyL cA) rh (rcW rh cA) NW yX2_open cX2_open 5 .int 1 [.ref (rh iMA), .ref (rh (iP p)), .int xb] σ (f_MA_open p xb σ).1 (f_MA_open p xb σ).2 := by
  refine CI.of rfl (Nat.le_of_ble_eq_true rfl) rfl ?_
  intro p9 e s m args below meth c A Q X hend
  refine v_lv (lv' := [(0, .ref (rh iMA)), (1, .ref (rh (iP p))), (2, .int xb)]) [0, 1, 2] rfl ?_
  refine v_iload_n X 2 dX2_open_0 rfl rfl ?_
  refine v_iconst (v := 0) X dX2_open_1 (by decide) ?_
  refine v_iconst (v := 3) X dX2_open_2 (by decide) ?_
  refine v_callSN_CI (rest := []) X [.int xb, .int 0, .int 3] (c_SM_within xb 0 3 σ ) mf_SM_within ws_SM_within wn_MA_204 rfl ⟨by decide, by decide⟩ (Nat.le_of_ble_eq_true rfl) ⟨by decide, by decide⟩ dX2_open_3 ?_
  refine v_if_ne X 11 dX2_open_6 (by decide) (fun h6 => ?_) (fun h6 => ?_)
  ·
    refine v_aload_n X 0 dX2_open_11 rfl rfl ?_
    refine v_getR (j := iAS) (i := iMA) (k := 4) X (lt_MA ) (sh_MA ) rfl in_MA (by decide) wf_MA_37 rfl (fun _ => rfl) dX2_open_12 ?_
    refine v_iload_n X 2 dX2_open_15 rfl rfl ?_
    have hv16 : vp_in xb 4 := (wi_in h6)
    refine v_aald (i := iAS) (t0 := 3) (g := iS) X (lt_ASL ) (sh_ASL ) rfl hv16 dX2_open_16 ?_
    refine v_getI (i := (iS (xb).toNatClampNeg)) (k := 0) X (lt_SL (vin_lt hv16)) (sh_SL (vin_lt hv16)) rfl in_SL (by decide) wf_MA_207 rfl (fun _ => rfl) dX2_open_17 ?_
    refine v_aload_n X 0 dX2_open_20 rfl rfl ?_
    refine v_getI (i := iMA) (k := 0) X (lt_MA ) (sh_MA ) rfl in_MA (by decide) wf_MA_9 rfl (fun _ => rfl) dX2_open_21 ?_
    refine v_aload_n X 1 dX2_open_24 rfl rfl ?_
    refine v_getI (i := (iP p)) (k := 4) X (lt_PT hp) (sh_PT hp) rfl in_PT (by decide) wf_MA_63 rfl (fun _ => rfl) dX2_open_25 ?_
    refine v_callSN_CI (rest := [.int (σ (iS (xb).toNatClampNeg) 0)]) X [.int (σ iMA 0), .int (σ (iP p) 4)] (c_SM_mix (σ iMA 0) (σ (iP p) 4) σ ) mf_SM_mix ws_SM_mix wn_MA_66 rfl ⟨by decide, by decide⟩ (Nat.le_of_ble_eq_true rfl) ⟨by decide, by decide⟩ dX2_open_28 ?_
    refine v_ixor X dX2_open_31 ?_
    refine v_istore_n (lv' := [(3, .int ((σ (iS (xb).toNatClampNeg) 0) ^^^ (f_SM_mix (σ iMA 0) (σ (iP p) 4)))), (0, .ref (rh iMA)), (1, .ref (rh (iP p))), (2, .int xb)]) X dX2_open_32 rfl (by decide) rfl ?_
    refine v_aload_n X 1 dX2_open_33 rfl rfl ?_
    refine v_getR (j := iAS) (i := iMA) (k := 4) X (lt_MA ) (sh_MA ) rfl in_MA (by decide) wf_MA_37 rfl (fun _ => rfl) dX2_open_34 ?_
    refine v_iload_n X 3 dX2_open_37 rfl rfl ?_
    have hv38 : vp_in xb 4 := (wi_in h6)
    refine v_aald (i := iAS) (t0 := 3) (g := iS) X (lt_ASL ) (sh_ASL ) rfl hv38 dX2_open_38 ?_
    refine v_getI (i := (iS (xb).toNatClampNeg)) (k := 1) X (lt_SL (vin_lt hv38)) (sh_SL (vin_lt hv38)) rfl in_SL (by decide) wf_MA_210 rfl (fun _ => rfl) dX2_open_39 ?_
    refine v_aload_n X 1 dX2_open_42 rfl rfl ?_
    refine v_getI (i := iMA) (k := 0) X (lt_MA ) (sh_MA ) rfl in_MA (by decide) wf_MA_9 rfl (fun _ => rfl) dX2_open_43 ?_
    refine v_iload_n X 0 dX2_open_46 rfl rfl ?_
    refine v_callSN_CI (rest := [.int (σ (iS (xb).toNatClampNeg) 1)]) X [.int (σ iMA 0), .int ((σ (iS (xb).toNatClampNeg) 0) ^^^ (f_SM_mix (σ iMA 0) (σ (iP p) 4)))] (c_SM_mix (σ iMA 0) ((σ (iS (xb).toNatClampNeg) 0) ^^^ (f_SM_mix (σ iMA 0) (σ (iP p) 4))) σ ) mf_SM_mix ws_SM_mix wn_MA_66 rfl ⟨by decide, by decide⟩ (Nat.le_of_ble_eq_true rfl) ⟨by decide, by decide⟩ dX2_open_47 ?_
    refine v_aload_n X 2 dX2_open_50 rfl rfl ?_
    refine v_getI (i := (iP p)) (k := 4) X (lt_PT hp) (sh_PT hp) rfl in_PT (by decide) wf_MA_63 rfl (fun _ => rfl) dX2_open_51 ?_
    refine v_callSN_CI (rest := [.int (σ (iS (xb).toNatClampNeg) 1)]) X [.int (f_SM_mix (σ iMA 0) ((σ (iS (xb).toNatClampNeg) 0) ^^^ (f_SM_mix (σ iMA 0) (σ (iP p) 4)))), .int (σ (iP p) 4)] (c_SM_mix (f_SM_mix (σ iMA 0) ((σ (iS (xb).toNatClampNeg) 0) ^^^ (f_SM_mix (σ iMA 0) (σ (iP p) 4)))) (σ (iP p) 4) σ ) mf_SM_mix ws_SM_mix wn_MA_66 rfl ⟨by decide, by decide⟩ (Nat.le_of_ble_eq_true rfl) ⟨by decide, by decide⟩ dX2_open_54 ?_
    refine v_suff (pc2 := 65) (lv2 := [(3, .int ((σ (iS (xb).toNatClampNeg) 0) ^^^ (f_SM_mix (σ iMA 0) (σ (iP p) 4)))), (0, .ref (rh iMA)), (1, .ref (rh (iP p))), (2, .int xb)]) (st2 := [.int ((if (σ (iS (xb).toNatClampNeg) 1) = (f_SM_mix (f_SM_mix (σ iMA 0) ((σ (iS (xb).toNatClampNeg) 0) ^^^ (f_SM_mix (σ iMA 0) (σ (iP p) 4)))) (σ (iP p) 4)) then 1 else 0) : Int32)]) (σ2 := σ) ?_ (fun J57 => ?_)
    rotate_left
    ·
      refine v_icmp_ne X 64 dX2_open_57 (by decide) (fun h57 => ?_) (fun h57 => ?_)
      ·
        refine v_iconst (v := 0) X dX2_open_64 (by decide) ?_
        have e9 : (((if (σ (iS (xb).toNatClampNeg) 1) = (f_SM_mix (f_SM_mix (σ iMA 0) ((σ (iS (xb).toNatClampNeg) 0) ^^^ (f_SM_mix (σ iMA 0) (σ (iP p) 4)))) (σ (iP p) 4)) then 1 else 0) : Int32) : Int32) = 0 := by simp only [if_neg h57]
        rw [e9] at J57
        exact J57
      ·
        refine v_iconst (v := 1) X dX2_open_60 (by decide) ?_
        refine v_goto (tgt := 65) X dX2_open_61 (by decide) ?_
        have e9 : (((if (σ (iS (xb).toNatClampNeg) 1) = (f_SM_mix (f_SM_mix (σ iMA 0) ((σ (iS (xb).toNatClampNeg) 0) ^^^ (f_SM_mix (σ iMA 0) (σ (iP p) 4)))) (σ (iP p) 4)) then 1 else 0) : Int32) : Int32) = 1 := by simp only [if_pos h57]
        rw [e9] at J57
        exact J57
    refine v_istore (lv' := [(4, .int ((if (σ (iS (xb).toNatClampNeg) 1) = (f_SM_mix (f_SM_mix (σ iMA 0) ((σ (iS (xb).toNatClampNeg) 0) ^^^ (f_SM_mix (σ iMA 0) (σ (iP p) 4)))) (σ (iP p) 4)) then 1 else 0) : Int32)), (3, .int ((σ (iS (xb).toNatClampNeg) 0) ^^^ (f_SM_mix (σ iMA 0) (σ (iP p) 4)))), (0, .ref (rh iMA)), (1, .ref (rh (iP p))), (2, .int xb)]) X dX2_open_65 (by decide) rfl ?_
    refine v_iload X 0 dX2_open_67 rfl ?_
    refine v_if_eq X 79 dX2_open_69 (by decide) (fun h69 => ?_) (fun h69 => ?_)
    ·
      refine v_aload_n X 3 dX2_open_79 rfl rfl ?_
      refine v_bipush (v := 10) X dX2_open_80 (by decide) ?_
      refine v_iload X 0 dX2_open_82 rfl ?_
      refine v_suff (pc2 := 92) (lv2 := [(4, .int ((if (σ (iS (xb).toNatClampNeg) 1) = (f_SM_mix (f_SM_mix (σ iMA 0) ((σ (iS (xb).toNatClampNeg) 0) ^^^ (f_SM_mix (σ iMA 0) (σ (iP p) 4)))) (σ (iP p) 4)) then 1 else 0) : Int32)), (3, .int ((σ (iS (xb).toNatClampNeg) 0) ^^^ (f_SM_mix (σ iMA 0) (σ (iP p) 4)))), (0, .ref (rh iMA)), (1, .ref (rh (iP p))), (2, .int xb)]) (st2 := [.int (0 : Int32), .int 10, .ref (rh (iP p))]) (σ2 := σ) ?_ (fun J84 => ?_)
      rotate_left
      ·
        refine v_if_eq X 91 dX2_open_84 (by decide) (fun h84 => ?_) (fun h84 => ?_)
        ·
          refine v_iconst (v := 0) X dX2_open_91 (by decide) ?_
          have e9 : ((0 : Int32) : Int32) = 0 := by simp only []
          rw [e9] at J84
          exact J84
        · exact absurd h69 h84
      refine v_callV_CV (rest := []) X [.int 10, .int (0 : Int32)] (c_PT_put hp 10 (0 : Int32) σ ) mf_PT_put wi_PT_put wl_PT_put (lt_PT hp) (sh_PT hp) rfl wm_MA_125 rfl ⟨by decide, by decide⟩ (Nat.le_of_ble_eq_true rfl) ⟨by decide, by decide⟩ dX2_open_92 ?_
      generalize hg92 : (f_PT_put p 10 (0 : Int32) σ) = g92
      refine v_iconst (v := 0) X dX2_open_95 (by decide) ?_
      have e9 : f_MA_open p xb σ = (0, g92) := by subst hg92; simp only [f_MA_open, if_neg h6, if_pos h69]
      exact v_endI hend dX2_open_96 (by rw [e9]) (by rw [e9])
    ·
      refine v_aload_n X 3 dX2_open_72 rfl rfl ?_
      refine v_bipush (v := 11) X dX2_open_73 (by decide) ?_
      refine v_iload_n X 1 dX2_open_75 rfl rfl ?_
      refine v_callV_CV (rest := []) X [.int 11, .int ((σ (iS (xb).toNatClampNeg) 0) ^^^ (f_SM_mix (σ iMA 0) (σ (iP p) 4)))] (c_PT_put hp 11 ((σ (iS (xb).toNatClampNeg) 0) ^^^ (f_SM_mix (σ iMA 0) (σ (iP p) 4))) σ ) mf_PT_put wi_PT_put wl_PT_put (lt_PT hp) (sh_PT hp) rfl wm_MA_125 rfl ⟨by decide, by decide⟩ (Nat.le_of_ble_eq_true rfl) ⟨by decide, by decide⟩ dX2_open_76 ?_
      generalize hg76 : (f_PT_put p 11 ((σ (iS (xb).toNatClampNeg) 0) ^^^ (f_SM_mix (σ iMA 0) (σ (iP p) 4))) σ) = g76
      refine v_aload_n X 3 dX2_open_79 rfl rfl ?_
      refine v_bipush (v := 10) X dX2_open_80 (by decide) ?_
      refine v_iload X 0 dX2_open_82 rfl ?_
      refine v_suff (pc2 := 92) (lv2 := [(4, .int ((if (σ (iS (xb).toNatClampNeg) 1) = (f_SM_mix (f_SM_mix (σ iMA 0) ((σ (iS (xb).toNatClampNeg) 0) ^^^ (f_SM_mix (σ iMA 0) (σ (iP p) 4)))) (σ (iP p) 4)) then 1 else 0) : Int32)), (3, .int ((σ (iS (xb).toNatClampNeg) 0) ^^^ (f_SM_mix (σ iMA 0) (σ (iP p) 4)))), (0, .ref (rh iMA)), (1, .ref (rh (iP p))), (2, .int xb)]) (st2 := [.int (1 : Int32), .int 10, .ref (rh (iP p))]) (σ2 := g76) ?_ (fun J84 => ?_)
      rotate_left
      ·
        refine v_if_eq X 91 dX2_open_84 (by decide) (fun h84 => ?_) (fun h84 => ?_)
        · exact absurd h84 h69
        ·
          refine v_iconst (v := 1) X dX2_open_87 (by decide) ?_
          refine v_goto (tgt := 92) X dX2_open_88 (by decide) ?_
          have e9 : ((1 : Int32) : Int32) = 1 := by simp only []
          rw [e9] at J84
          exact J84
      refine v_callV_CV (rest := []) X [.int 10, .int (1 : Int32)] (c_PT_put hp 10 (1 : Int32) g76 ) mf_PT_put wi_PT_put wl_PT_put (lt_PT hp) (sh_PT hp) rfl wm_MA_125 rfl ⟨by decide, by decide⟩ (Nat.le_of_ble_eq_true rfl) ⟨by decide, by decide⟩ dX2_open_92 ?_
      generalize hg92 : (f_PT_put p 10 (1 : Int32) g76) = g92
      refine v_iconst (v := 0) X dX2_open_95 (by decide) ?_
      have e9 : f_MA_open p xb σ = (0, g92) := by subst hg76; subst hg92; simp only [f_MA_open, if_neg h6, if_neg h69]
      exact v_endI hend dX2_open_96 (by rw [e9]) (by rw [e9])
  ·
    refine v_iconst (v := 3) X dX2_open_9 (by decide) ?_
    have e9 : f_MA_open p xb σ = (3, σ) := by simp only [f_MA_open, if_pos h6]
    exact v_endI hend dX2_open_10 (by rw [e9]) (by rw [e9])
theorem I_MA_open (p : Nat) (xb : Int32) {σ : St} (hI : Ic σ) : Ic (f_MA_open p xb σ).2 := by
  unfold f_MA_open
  exact (ic_ite2 (fun _ => hI) (fun _ => (ic_ite2 (fun _ => (I_PT_put p 10 (0 : Int32) hI)) (fun _ => (I_PT_put p 10 (1 : Int32) (I_PT_put p 11 ((σ (iS (xb).toNatClampNeg) 0) ^^^ (f_SM_mix (σ iMA 0) (σ (iP p) 4))) hI))))))
def f_MA_serve (p : Nat) (σ : St) : Int32 × St :=
  (if (f_PT_get p 15 σ) = 0 then (0, (up σ (iP p) 7 1)) else (if (f_PT_get p 15 σ) = 1 then ((f_MA_tellAge p (f_PT_get p 10 σ) σ).1, (f_MA_tellAge p (f_PT_get p 10 σ) σ).2) else (if (f_PT_get p 15 σ) = 2 then ((f_MA_seal p (f_PT_get p 10 σ) (f_PT_get p 11 σ) σ).1, (f_MA_seal p (f_PT_get p 10 σ) (f_PT_get p 11 σ) σ).2) else (if (f_PT_get p 15 σ) = 3 then ((f_MA_open p (f_PT_get p 10 σ) σ).1, (f_MA_open p (f_PT_get p 10 σ) σ).2) else (if (f_PT_get p 15 σ) = 4 then (0, (f_PT_put p 10 (σ (iP p) 4) σ)) else (3, σ))))))
set_option maxHeartbeats 4000000 in
set_option maxRecDepth 100000 in
theorem c_MA_serve {p : Nat} (hp : p < 4) (σ : St) : CI l D (tyL cA) rh (rcW rh cA) NW yX2_serve cX2_serve 2 .int 2 [.ref (rh iMA), .ref (rh (iP p))] σ (f_MA_serve p σ).1 (f_MA_serve p σ).2 := by
  refine CI.of rfl (Nat.le_of_ble_eq_true rfl) rfl ?_
  intro p9 e s m args below meth c A Q X hend
  refine v_lv (lv' := [(0, .ref (rh iMA)), (1, .ref (rh (iP p)))]) [0, 1] rfl ?_
  refine v_aload_n X 1 dX2_serve_0 rfl rfl ?_
  refine v_bipush (v := 15) X dX2_serve_1 (by decide) ?_
  refine v_callV_CI (rest := []) X [.int 15] (c_PT_get hp 15 σ ) mf_PT_get wi_PT_get wl_PT_get (lt_PT hp) (sh_PT hp) rfl wm_MA_110 rfl ⟨by decide, by decide⟩ (Nat.le_of_ble_eq_true rfl) ⟨by decide, by decide⟩ dX2_serve_3 ?_
  by_cases h6_0 : (f_PT_get p 15 σ) = 0
  ·
    refine v_tswI (off := 34) X 0 40 h6_0 dX2_serve_6 (by decide) (by decide) ?_
    refine v_aload_n X 1 dX2_serve_40 rfl rfl ?_
    refine v_iconst (v := 1) X dX2_serve_41 (by decide) ?_
    refine v_put (i := (iP p)) (k := 7) (x := 1) (ty := .boolean) X (lt_PT hp) (sh_PT hp) rfl in_PT (by decide) tyX3 tyX3_ok nX3 wf_MA_189 rfl rfl rfl (zN (Or.inr rfl)) (zF (Or.inr rfl)) (fun _ => Nat.le_of_ble_eq_true rfl) (fun _ _ => rfl) dX2_serve_42 ?_
    generalize hg42 : (up σ (iP p) 7 1) = g42
    refine v_iconst (v := 0) X dX2_serve_45 (by decide) ?_
    have e9 : f_MA_serve p σ = (0, g42) := by subst hg42; simp only [f_MA_serve, if_pos h6_0]
    exact v_endI hend dX2_serve_46 (by rw [e9]) (by rw [e9])
  by_cases h6_1 : (f_PT_get p 15 σ) = 1
  ·
    refine v_tswI (off := 41) X 1 47 h6_1 dX2_serve_6 (by decide) (by decide) ?_
    refine v_aload_n X 0 dX2_serve_47 rfl rfl ?_
    refine v_aload_n X 1 dX2_serve_48 rfl rfl ?_
    refine v_aload_n X 1 dX2_serve_49 rfl rfl ?_
    refine v_bipush (v := 10) X dX2_serve_50 (by decide) ?_
    refine v_callV_CI (rest := [.ref (rh (iP p)), .ref (rh iMA)]) X [.int 10] (c_PT_get hp 10 σ ) mf_PT_get wi_PT_get wl_PT_get (lt_PT hp) (sh_PT hp) rfl wm_MA_110 rfl ⟨by decide, by decide⟩ (Nat.le_of_ble_eq_true rfl) ⟨by decide, by decide⟩ dX2_serve_52 ?_
    refine v_callV_CI (rest := []) X [.ref (rh (iP p)), .int (f_PT_get p 10 σ)] (c_MA_tellAge hp (f_PT_get p 10 σ) σ ) mf_MA_tellAge wi_MA_tellAge wl_MA_tellAge (lt_MA ) (sh_MA ) rfl wm_MA_192 rfl ⟨by decide, by decide⟩ (Nat.le_of_ble_eq_true rfl) ⟨by decide, by decide⟩ dX2_serve_55 ?_
    generalize hg55 : (f_MA_tellAge p (f_PT_get p 10 σ) σ) = g55
    have e9 : f_MA_serve p σ = (g55.1, g55.2) := by subst hg55; simp only [f_MA_serve, if_neg h6_0, if_pos h6_1]
    exact v_endI hend dX2_serve_58 (by rw [e9]) (by rw [e9])
  by_cases h6_2 : (f_PT_get p 15 σ) = 2
  ·
    refine v_tswI (off := 53) X 2 59 h6_2 dX2_serve_6 (by decide) (by decide) ?_
    refine v_aload_n X 0 dX2_serve_59 rfl rfl ?_
    refine v_aload_n X 1 dX2_serve_60 rfl rfl ?_
    refine v_aload_n X 1 dX2_serve_61 rfl rfl ?_
    refine v_bipush (v := 10) X dX2_serve_62 (by decide) ?_
    refine v_callV_CI (rest := [.ref (rh (iP p)), .ref (rh iMA)]) X [.int 10] (c_PT_get hp 10 σ ) mf_PT_get wi_PT_get wl_PT_get (lt_PT hp) (sh_PT hp) rfl wm_MA_110 rfl ⟨by decide, by decide⟩ (Nat.le_of_ble_eq_true rfl) ⟨by decide, by decide⟩ dX2_serve_64 ?_
    refine v_aload_n X 1 dX2_serve_67 rfl rfl ?_
    refine v_bipush (v := 11) X dX2_serve_68 (by decide) ?_
    refine v_callV_CI (rest := [.int (f_PT_get p 10 σ), .ref (rh (iP p)), .ref (rh iMA)]) X [.int 11] (c_PT_get hp 11 σ ) mf_PT_get wi_PT_get wl_PT_get (lt_PT hp) (sh_PT hp) rfl wm_MA_110 rfl ⟨by decide, by decide⟩ (Nat.le_of_ble_eq_true rfl) ⟨by decide, by decide⟩ dX2_serve_70 ?_
    refine v_callV_CI (rest := []) X [.ref (rh (iP p)), .int (f_PT_get p 10 σ), .int (f_PT_get p 11 σ)] (c_MA_seal hp (f_PT_get p 10 σ) (f_PT_get p 11 σ) σ ) mf_MA_seal wi_MA_seal wl_MA_seal (lt_MA ) (sh_MA ) rfl wm_MA_195 rfl ⟨by decide, by decide⟩ (Nat.le_of_ble_eq_true rfl) ⟨by decide, by decide⟩ dX2_serve_73 ?_
    generalize hg73 : (f_MA_seal p (f_PT_get p 10 σ) (f_PT_get p 11 σ) σ) = g73
    have e9 : f_MA_serve p σ = (g73.1, g73.2) := by subst hg73; simp only [f_MA_serve, if_neg h6_0, if_neg h6_1, if_pos h6_2]
    exact v_endI hend dX2_serve_76 (by rw [e9]) (by rw [e9])
  by_cases h6_3 : (f_PT_get p 15 σ) = 3
  ·
    refine v_tswI (off := 71) X 3 77 h6_3 dX2_serve_6 (by decide) (by decide) ?_
    refine v_aload_n X 0 dX2_serve_77 rfl rfl ?_
    refine v_aload_n X 1 dX2_serve_78 rfl rfl ?_
    refine v_aload_n X 1 dX2_serve_79 rfl rfl ?_
    refine v_bipush (v := 10) X dX2_serve_80 (by decide) ?_
    refine v_callV_CI (rest := [.ref (rh (iP p)), .ref (rh iMA)]) X [.int 10] (c_PT_get hp 10 σ ) mf_PT_get wi_PT_get wl_PT_get (lt_PT hp) (sh_PT hp) rfl wm_MA_110 rfl ⟨by decide, by decide⟩ (Nat.le_of_ble_eq_true rfl) ⟨by decide, by decide⟩ dX2_serve_82 ?_
    refine v_callV_CI (rest := []) X [.ref (rh (iP p)), .int (f_PT_get p 10 σ)] (c_MA_open hp (f_PT_get p 10 σ) σ ) mf_MA_open wi_MA_open wl_MA_open (lt_MA ) (sh_MA ) rfl wm_MA_198 rfl ⟨by decide, by decide⟩ (Nat.le_of_ble_eq_true rfl) ⟨by decide, by decide⟩ dX2_serve_85 ?_
    generalize hg85 : (f_MA_open p (f_PT_get p 10 σ) σ) = g85
    have e9 : f_MA_serve p σ = (g85.1, g85.2) := by subst hg85; simp only [f_MA_serve, if_neg h6_0, if_neg h6_1, if_neg h6_2, if_pos h6_3]
    exact v_endI hend dX2_serve_88 (by rw [e9]) (by rw [e9])
  by_cases h6_4 : (f_PT_get p 15 σ) = 4
  ·
    refine v_tswI (off := 83) X 4 89 h6_4 dX2_serve_6 (by decide) (by decide) ?_
    refine v_aload_n X 1 dX2_serve_89 rfl rfl ?_
    refine v_bipush (v := 10) X dX2_serve_90 (by decide) ?_
    refine v_aload_n X 1 dX2_serve_92 rfl rfl ?_
    refine v_getI (i := (iP p)) (k := 4) X (lt_PT hp) (sh_PT hp) rfl in_PT (by decide) wf_MA_63 rfl (fun _ => rfl) dX2_serve_93 ?_
    refine v_callV_CV (rest := []) X [.int 10, .int (σ (iP p) 4)] (c_PT_put hp 10 (σ (iP p) 4) σ ) mf_PT_put wi_PT_put wl_PT_put (lt_PT hp) (sh_PT hp) rfl wm_MA_125 rfl ⟨by decide, by decide⟩ (Nat.le_of_ble_eq_true rfl) ⟨by decide, by decide⟩ dX2_serve_96 ?_
    generalize hg96 : (f_PT_put p 10 (σ (iP p) 4) σ) = g96
    refine v_iconst (v := 0) X dX2_serve_99 (by decide) ?_
    have e9 : f_MA_serve p σ = (0, g96) := by subst hg96; simp only [f_MA_serve, if_neg h6_0, if_neg h6_1, if_neg h6_2, if_neg h6_3, if_pos h6_4]
    exact v_endI hend dX2_serve_100 (by rw [e9]) (by rw [e9])
  refine v_tswO X 101 dX2_serve_6 (by have g0 := lv_neT (a := 0) h6_0 (by decide); have g1 := lv_neT (a := 1) h6_1 (by decide); have g2 := lv_neT (a := 2) h6_2 (by decide); have g3 := lv_neT (a := 3) h6_3 (by decide); have g4 := lv_neT (a := 4) h6_4 (by decide); omega) (by decide) ?_
  refine v_iconst (v := 3) X dX2_serve_101 (by decide) ?_
  have e9 : f_MA_serve p σ = (3, σ) := by simp only [f_MA_serve, if_neg h6_0, if_neg h6_1, if_neg h6_2, if_neg h6_3, if_neg h6_4]
  exact v_endI hend dX2_serve_102 (by rw [e9]) (by rw [e9])
theorem I_MA_serve (p : Nat) {σ : St} (hI : Ic σ) : Ic (f_MA_serve p σ).2 := by
  unfold f_MA_serve
  exact (ic_ite2 (fun _ => (Ic.upPT hI (by decide))) (fun _ => (ic_ite2 (fun _ => (I_MA_tellAge p (f_PT_get p 10 σ) hI)) (fun _ => (ic_ite2 (fun _ => (I_MA_seal p (f_PT_get p 10 σ) (f_PT_get p 11 σ) hI)) (fun _ => (ic_ite2 (fun _ => (I_MA_open p (f_PT_get p 10 σ) hI)) (fun _ => (ic_ite2 (fun _ => (I_PT_put p 10 (σ (iP p) 4) hI)) (fun _ => hI))))))))))
def f_MA_execute (p : Nat) (xb : Int32) (σ : St) : Int32 × St :=
  (if (f_CO_isKnown xb) = 0 then (1, σ) else (if (f_CO_o xb) = 3 then ((f_MA_readInto p (f_CO_rd xb) ((f_PT_get p (f_CO_rs1 xb) σ) + (f_CO_immediateI xb)) σ).1, (f_MA_readInto p (f_CO_rd xb) ((f_PT_get p (f_CO_rs1 xb) σ) + (f_CO_immediateI xb)) σ).2) else (if (f_CO_o xb) = 19 then (0, (f_PT_put p (f_CO_rd xb) (f_RE_combined (f_CO_f xb) ((if ((if (f_CO_g xb) = 32 then 1 else 0) : Int32) = 0 then 0 else (if (f_CO_f xb) = 5 then 1 else 0)) : Int32) (f_PT_get p (f_CO_rs1 xb) σ) (f_CO_immediateI xb)) σ)) else (if (f_CO_o xb) = 23 then (0, (f_PT_put p (f_CO_rd xb) ((σ (iP p) 5) + (f_CO_immediateU xb)) σ)) else (if (f_CO_o xb) = 35 then ((f_MA_write p ((f_PT_get p (f_CO_rs1 xb) σ) + (f_CO_immediateS xb)) (f_PT_get p (f_CO_rs2 xb) σ) σ).1, (f_MA_write p ((f_PT_get p (f_CO_rs1 xb) σ) + (f_CO_immediateS xb)) (f_PT_get p (f_CO_rs2 xb) σ) σ).2) else (if (f_CO_o xb) = 51 then (0, (f_PT_put p (f_CO_rd xb) (f_RE_combined (f_CO_f xb) ((if (f_CO_g xb) = 32 then 1 else 0) : Int32) (f_PT_get p (f_CO_rs1 xb) σ) (f_PT_get p (f_CO_rs2 xb) σ)) σ)) else (if (f_CO_o xb) = 55 then (0, (f_PT_put p (f_CO_rd xb) (f_CO_immediateU xb) σ)) else (if (f_CO_o xb) = 99 then (if (f_RE_branches (f_CO_f xb) (f_PT_get p (f_CO_rs1 xb) σ) (f_PT_get p (f_CO_rs2 xb) σ)) = 0 then (0, σ) else (0, (up σ iMA 6 ((σ (iP p) 5) + (f_CO_immediateB xb))))) else (if (f_CO_o xb) = 103 then ((f_MA_jump p (f_CO_rd xb) (((f_PT_get p (f_CO_rs1 xb) σ) + (f_CO_immediateI xb)) &&& (-2)) σ).1, (f_MA_jump p (f_CO_rd xb) (((f_PT_get p (f_CO_rs1 xb) σ) + (f_CO_immediateI xb)) &&& (-2)) σ).2) else (if (f_CO_o xb) = 111 then ((f_MA_jump p (f_CO_rd xb) ((σ (iP p) 5) + (f_CO_immediateJ xb)) σ).1, (f_MA_jump p (f_CO_rd xb) ((σ (iP p) 5) + (f_CO_immediateJ xb)) σ).2) else (if xb = 115 then ((f_MA_serve p σ).1, (f_MA_serve p σ).2) else (4, σ))))))))))))
set_option maxHeartbeats 4000000 in
set_option maxRecDepth 100000 in
theorem c_MA_execute {p : Nat} (hp : p < 4) (xb : Int32) (σ : St) (hI : Ic σ) : CI l D (tyL cA) rh (rcW rh cA) NW yX2_execute cX2_execute 8 .int 3 [.ref (rh iMA), .ref (rh (iP p)), .int xb] σ (f_MA_execute p xb σ).1 (f_MA_execute p xb σ).2 := by
  refine CI.of rfl (Nat.le_of_ble_eq_true rfl) rfl ?_
  intro p9 e s m args below meth c A Q X hend
  refine v_lv (lv' := [(0, .ref (rh iMA)), (1, .ref (rh (iP p))), (2, .int xb)]) [0, 1, 2] rfl ?_
  refine v_iload_n X 2 dX2_execute_0 rfl rfl ?_
  refine v_callS_CI (rest := []) X [.int xb] (c_CO_isKnown xb σ ) mf_CO_isKnown ws_CO_isKnown wm_MA_95 rfl ⟨by decide, by decide⟩ (Nat.le_of_ble_eq_true rfl) ⟨by decide, by decide⟩ dX2_execute_1 ?_
  refine v_if_ne X 9 dX2_execute_4 (by decide) (fun h4 => ?_) (fun h4 => ?_)
  ·
    refine v_iload_n X 2 dX2_execute_9 rfl rfl ?_
    refine v_callS_CI (rest := []) X [.int xb] (c_CO_rd xb σ ) mf_CO_rd ws_CO_rd wm_MA_100 rfl ⟨by decide, by decide⟩ (Nat.le_of_ble_eq_true rfl) ⟨by decide, by decide⟩ dX2_execute_10 ?_
    refine v_istore_n (lv' := [(3, .int (f_CO_rd xb)), (0, .ref (rh iMA)), (1, .ref (rh (iP p))), (2, .int xb)]) X dX2_execute_13 rfl (by decide) rfl ?_
    refine v_iload_n X 3 dX2_execute_14 rfl rfl ?_
    refine v_callS_CI (rest := []) X [.int xb] (c_CO_f xb σ ) mf_CO_f ws_CO_f wm_MA_104 rfl ⟨by decide, by decide⟩ (Nat.le_of_ble_eq_true rfl) ⟨by decide, by decide⟩ dX2_execute_15 ?_
    refine v_istore (lv' := [(4, .int (f_CO_f xb)), (3, .int (f_CO_rd xb)), (0, .ref (rh iMA)), (1, .ref (rh (iP p))), (2, .int xb)]) X dX2_execute_18 (by decide) rfl ?_
    refine v_aload_n X 3 dX2_execute_20 rfl rfl ?_
    refine v_iload_n X 4 dX2_execute_21 rfl rfl ?_
    refine v_callS_CI (rest := [.ref (rh (iP p))]) X [.int xb] (c_CO_rs1 xb σ ) mf_CO_rs1 ws_CO_rs1 wm_MA_107 rfl ⟨by decide, by decide⟩ (Nat.le_of_ble_eq_true rfl) ⟨by decide, by decide⟩ dX2_execute_22 ?_
    refine v_callV_CI (rest := []) X [.int (f_CO_rs1 xb)] (c_PT_get hp (f_CO_rs1 xb) σ ) mf_PT_get wi_PT_get wl_PT_get (lt_PT hp) (sh_PT hp) rfl wm_MA_110 rfl ⟨by decide, by decide⟩ (Nat.le_of_ble_eq_true rfl) ⟨by decide, by decide⟩ dX2_execute_25 ?_
    refine v_istore (lv' := [(5, .int (f_PT_get p (f_CO_rs1 xb) σ)), (4, .int (f_CO_f xb)), (3, .int (f_CO_rd xb)), (0, .ref (rh iMA)), (1, .ref (rh (iP p))), (2, .int xb)]) X dX2_execute_28 (by decide) rfl ?_
    refine v_aload_n X 4 dX2_execute_30 rfl rfl ?_
    refine v_iload_n X 5 dX2_execute_31 rfl rfl ?_
    refine v_callS_CI (rest := [.ref (rh (iP p))]) X [.int xb] (c_CO_rs2 xb σ ) mf_CO_rs2 ws_CO_rs2 wm_MA_113 rfl ⟨by decide, by decide⟩ (Nat.le_of_ble_eq_true rfl) ⟨by decide, by decide⟩ dX2_execute_32 ?_
    refine v_callV_CI (rest := []) X [.int (f_CO_rs2 xb)] (c_PT_get hp (f_CO_rs2 xb) σ ) mf_PT_get wi_PT_get wl_PT_get (lt_PT hp) (sh_PT hp) rfl wm_MA_110 rfl ⟨by decide, by decide⟩ (Nat.le_of_ble_eq_true rfl) ⟨by decide, by decide⟩ dX2_execute_35 ?_
    refine v_istore (lv' := [(6, .int (f_PT_get p (f_CO_rs2 xb) σ)), (5, .int (f_PT_get p (f_CO_rs1 xb) σ)), (4, .int (f_CO_f xb)), (3, .int (f_CO_rd xb)), (0, .ref (rh iMA)), (1, .ref (rh (iP p))), (2, .int xb)]) X dX2_execute_38 (by decide) rfl ?_
    refine v_iload_n X 6 dX2_execute_40 rfl rfl ?_
    refine v_callS_CI (rest := []) X [.int xb] (c_CO_g xb σ ) mf_CO_g ws_CO_g wm_MA_116 rfl ⟨by decide, by decide⟩ (Nat.le_of_ble_eq_true rfl) ⟨by decide, by decide⟩ dX2_execute_41 ?_
    refine v_bipush (v := 32) X dX2_execute_44 (by decide) ?_
    refine v_suff (pc2 := 54) (lv2 := [(6, .int (f_PT_get p (f_CO_rs2 xb) σ)), (5, .int (f_PT_get p (f_CO_rs1 xb) σ)), (4, .int (f_CO_f xb)), (3, .int (f_CO_rd xb)), (0, .ref (rh iMA)), (1, .ref (rh (iP p))), (2, .int xb)]) (st2 := [.int ((if (f_CO_g xb) = 32 then 1 else 0) : Int32)]) (σ2 := σ) ?_ (fun J46 => ?_)
    rotate_left
    ·
      refine v_icmp_ne X 53 dX2_execute_46 (by decide) (fun h46 => ?_) (fun h46 => ?_)
      ·
        refine v_iconst (v := 0) X dX2_execute_53 (by decide) ?_
        have e9 : (((if (f_CO_g xb) = 32 then 1 else 0) : Int32) : Int32) = 0 := by simp only [if_neg h46]
        rw [e9] at J46
        exact J46
      ·
        refine v_iconst (v := 1) X dX2_execute_49 (by decide) ?_
        refine v_goto (tgt := 54) X dX2_execute_50 (by decide) ?_
        have e9 : (((if (f_CO_g xb) = 32 then 1 else 0) : Int32) : Int32) = 1 := by simp only [if_pos h46]
        rw [e9] at J46
        exact J46
    refine v_istore (lv' := [(7, .int ((if (f_CO_g xb) = 32 then 1 else 0) : Int32)), (6, .int (f_PT_get p (f_CO_rs2 xb) σ)), (5, .int (f_PT_get p (f_CO_rs1 xb) σ)), (4, .int (f_CO_f xb)), (3, .int (f_CO_rd xb)), (0, .ref (rh iMA)), (1, .ref (rh (iP p))), (2, .int xb)]) X dX2_execute_54 (by decide) rfl ?_
    refine v_iload_n X 7 dX2_execute_56 rfl rfl ?_
    refine v_callS_CI (rest := []) X [.int xb] (c_CO_o xb σ ) mf_CO_o ws_CO_o wm_MA_119 rfl ⟨by decide, by decide⟩ (Nat.le_of_ble_eq_true rfl) ⟨by decide, by decide⟩ dX2_execute_57 ?_
    by_cases h60_0 : (f_CO_o xb) = 3
    ·
      refine v_lsw (off := 171) X 231 dX2_execute_60 (by decide) (by rw [h60_0] <;> rfl) (by decide) ?_
      refine v_aload_n X 5 dX2_execute_231 rfl rfl ?_
      refine v_aload_n X 6 dX2_execute_232 rfl rfl ?_
      refine v_iload_n X 4 dX2_execute_233 rfl rfl ?_
      refine v_iload X 2 dX2_execute_234 rfl ?_
      refine v_iload_n X 7 dX2_execute_236 rfl rfl ?_
      refine v_callS_CI (rest := [.int (f_PT_get p (f_CO_rs1 xb) σ), .int (f_CO_rd xb), .ref (rh (iP p)), .ref (rh iMA)]) X [.int xb] (c_CO_immediateI xb σ ) mf_CO_immediateI ws_CO_immediateI wm_MA_136 rfl ⟨by decide, by decide⟩ (Nat.le_of_ble_eq_true rfl) ⟨by decide, by decide⟩ dX2_execute_237 ?_
      refine v_iadd X dX2_execute_240 ?_
      refine v_callV_CI (rest := []) X [.ref (rh (iP p)), .int (f_CO_rd xb), .int ((f_PT_get p (f_CO_rs1 xb) σ) + (f_CO_immediateI xb))] (c_MA_readInto hp (f_CO_rd xb) ((f_PT_get p (f_CO_rs1 xb) σ) + (f_CO_immediateI xb)) σ hI) mf_MA_readInto wi_MA_readInto wl_MA_readInto (lt_MA ) (sh_MA ) rfl wm_MA_148 rfl ⟨by decide, by decide⟩ (Nat.le_of_ble_eq_true rfl) ⟨by decide, by decide⟩ dX2_execute_241 ?_
      generalize hg241 : (f_MA_readInto p (f_CO_rd xb) ((f_PT_get p (f_CO_rs1 xb) σ) + (f_CO_immediateI xb)) σ) = g241
      have hI241 : Ic g241.2 := by rw [← hg241]; exact (I_MA_readInto p (f_CO_rd xb) ((f_PT_get p (f_CO_rs1 xb) σ) + (f_CO_immediateI xb)) hI)
      have e9 : f_MA_execute p xb σ = (g241.1, g241.2) := by subst hg241; simp only [f_MA_execute, if_neg h4, if_pos h60_0]
      exact v_endI hend dX2_execute_244 (by rw [e9]) (by rw [e9])
    by_cases h60_1 : (f_CO_o xb) = 19
    ·
      refine v_lsw (off := 200) X 260 dX2_execute_60 (by decide) (by rw [h60_1] <;> rfl) (by decide) ?_
      refine v_aload_n X 6 dX2_execute_260 rfl rfl ?_
      refine v_iload_n X 4 dX2_execute_261 rfl rfl ?_
      refine v_iload X 3 dX2_execute_262 rfl ?_
      refine v_iload X 0 dX2_execute_264 rfl ?_
      refine v_suff (pc2 := 280) (lv2 := [(7, .int ((if (f_CO_g xb) = 32 then 1 else 0) : Int32)), (6, .int (f_PT_get p (f_CO_rs2 xb) σ)), (5, .int (f_PT_get p (f_CO_rs1 xb) σ)), (4, .int (f_CO_f xb)), (3, .int (f_CO_rd xb)), (0, .ref (rh iMA)), (1, .ref (rh (iP p))), (2, .int xb)]) (st2 := [.int ((if ((if (f_CO_g xb) = 32 then 1 else 0) : Int32) = 0 then 0 else (if (f_CO_f xb) = 5 then 1 else 0)) : Int32), .int (f_CO_f xb), .int (f_CO_rd xb), .ref (rh (iP p))]) (σ2 := σ) ?_ (fun J266 => ?_)
      rotate_left
      ·
        refine v_if_eq X 279 dX2_execute_266 (by decide) (fun h266 => ?_) (fun h266 => ?_)
        ·
          refine v_iconst (v := 0) X dX2_execute_279 (by decide) ?_
          have e9 : (((if ((if (f_CO_g xb) = 32 then 1 else 0) : Int32) = 0 then 0 else (if (f_CO_f xb) = 5 then 1 else 0)) : Int32) : Int32) = 0 := by simp only [if_pos h266]
          rw [e9] at J266
          exact J266
        ·
          refine v_iload X 3 dX2_execute_269 rfl ?_
          refine v_iconst (v := 5) X dX2_execute_271 (by decide) ?_
          refine v_icmp_ne X 279 dX2_execute_272 (by decide) (fun h272 => ?_) (fun h272 => ?_)
          ·
            refine v_iconst (v := 0) X dX2_execute_279 (by decide) ?_
            have e9 : (((if ((if (f_CO_g xb) = 32 then 1 else 0) : Int32) = 0 then 0 else (if (f_CO_f xb) = 5 then 1 else 0)) : Int32) : Int32) = 0 := by simp only [if_neg h266, if_neg h272]
            rw [e9] at J266
            exact J266
          ·
            refine v_iconst (v := 1) X dX2_execute_275 (by decide) ?_
            refine v_goto (tgt := 280) X dX2_execute_276 (by decide) ?_
            have e9 : (((if ((if (f_CO_g xb) = 32 then 1 else 0) : Int32) = 0 then 0 else (if (f_CO_f xb) = 5 then 1 else 0)) : Int32) : Int32) = 1 := by simp only [if_neg h266, if_pos h272]
            rw [e9] at J266
            exact J266
      refine v_iload X 2 dX2_execute_280 rfl ?_
      refine v_iload_n X 7 dX2_execute_282 rfl rfl ?_
      refine v_callS_CI (rest := [.int (f_PT_get p (f_CO_rs1 xb) σ), .int ((if ((if (f_CO_g xb) = 32 then 1 else 0) : Int32) = 0 then 0 else (if (f_CO_f xb) = 5 then 1 else 0)) : Int32), .int (f_CO_f xb), .int (f_CO_rd xb), .ref (rh (iP p))]) X [.int xb] (c_CO_immediateI xb σ ) mf_CO_immediateI ws_CO_immediateI wm_MA_136 rfl ⟨by decide, by decide⟩ (Nat.le_of_ble_eq_true rfl) ⟨by decide, by decide⟩ dX2_execute_283 ?_
      refine v_callS_CI (rest := [.int (f_CO_rd xb), .ref (rh (iP p))]) X [.int (f_CO_f xb), .int ((if ((if (f_CO_g xb) = 32 then 1 else 0) : Int32) = 0 then 0 else (if (f_CO_f xb) = 5 then 1 else 0)) : Int32), .int (f_PT_get p (f_CO_rs1 xb) σ), .int (f_CO_immediateI xb)] (c_RE_combined (f_CO_f xb) ((if ((if (f_CO_g xb) = 32 then 1 else 0) : Int32) = 0 then 0 else (if (f_CO_f xb) = 5 then 1 else 0)) : Int32) (f_PT_get p (f_CO_rs1 xb) σ) (f_CO_immediateI xb) σ ) mf_RE_combined ws_RE_combined wm_MA_157 rfl ⟨by decide, by decide⟩ (Nat.le_of_ble_eq_true rfl) ⟨by decide, by decide⟩ dX2_execute_286 ?_
      refine v_callV_CV (rest := []) X [.int (f_CO_rd xb), .int (f_RE_combined (f_CO_f xb) ((if ((if (f_CO_g xb) = 32 then 1 else 0) : Int32) = 0 then 0 else (if (f_CO_f xb) = 5 then 1 else 0)) : Int32) (f_PT_get p (f_CO_rs1 xb) σ) (f_CO_immediateI xb))] (c_PT_put hp (f_CO_rd xb) (f_RE_combined (f_CO_f xb) ((if ((if (f_CO_g xb) = 32 then 1 else 0) : Int32) = 0 then 0 else (if (f_CO_f xb) = 5 then 1 else 0)) : Int32) (f_PT_get p (f_CO_rs1 xb) σ) (f_CO_immediateI xb)) σ ) mf_PT_put wi_PT_put wl_PT_put (lt_PT hp) (sh_PT hp) rfl wm_MA_125 rfl ⟨by decide, by decide⟩ (Nat.le_of_ble_eq_true rfl) ⟨by decide, by decide⟩ dX2_execute_289 ?_
      generalize hg289 : (f_PT_put p (f_CO_rd xb) (f_RE_combined (f_CO_f xb) ((if ((if (f_CO_g xb) = 32 then 1 else 0) : Int32) = 0 then 0 else (if (f_CO_f xb) = 5 then 1 else 0)) : Int32) (f_PT_get p (f_CO_rs1 xb) σ) (f_CO_immediateI xb)) σ) = g289
      have hI289 : Ic g289 := by rw [← hg289]; exact (I_PT_put p (f_CO_rd xb) (f_RE_combined (f_CO_f xb) ((if ((if (f_CO_g xb) = 32 then 1 else 0) : Int32) = 0 then 0 else (if (f_CO_f xb) = 5 then 1 else 0)) : Int32) (f_PT_get p (f_CO_rs1 xb) σ) (f_CO_immediateI xb)) hI)
      refine v_iconst (v := 0) X dX2_execute_292 (by decide) ?_
      have e9 : f_MA_execute p xb σ = (0, g289) := by subst hg289; simp only [f_MA_execute, if_neg h4, if_neg h60_0, if_pos h60_1]
      exact v_endI hend dX2_execute_293 (by rw [e9]) (by rw [e9])
    by_cases h60_2 : (f_CO_o xb) = 23
    ·
      refine v_lsw (off := 95) X 155 dX2_execute_60 (by decide) (by rw [h60_2] <;> rfl) (by decide) ?_
      refine v_aload_n X 6 dX2_execute_155 rfl rfl ?_
      refine v_iload_n X 4 dX2_execute_156 rfl rfl ?_
      refine v_aload_n X 6 dX2_execute_157 rfl rfl ?_
      refine v_getI (i := (iP p)) (k := 5) X (lt_PT hp) (sh_PT hp) rfl in_PT (by decide) wf_MA_73 rfl (fun _ => rfl) dX2_execute_158 ?_
      refine v_iload_n X 7 dX2_execute_161 rfl rfl ?_
      refine v_callS_CI (rest := [.int (σ (iP p) 5), .int (f_CO_rd xb), .ref (rh (iP p))]) X [.int xb] (c_CO_immediateU xb σ ) mf_CO_immediateU ws_CO_immediateU wm_MA_122 rfl ⟨by decide, by decide⟩ (Nat.le_of_ble_eq_true rfl) ⟨by decide, by decide⟩ dX2_execute_162 ?_
      refine v_iadd X dX2_execute_165 ?_
      refine v_callV_CV (rest := []) X [.int (f_CO_rd xb), .int ((σ (iP p) 5) + (f_CO_immediateU xb))] (c_PT_put hp (f_CO_rd xb) ((σ (iP p) 5) + (f_CO_immediateU xb)) σ ) mf_PT_put wi_PT_put wl_PT_put (lt_PT hp) (sh_PT hp) rfl wm_MA_125 rfl ⟨by decide, by decide⟩ (Nat.le_of_ble_eq_true rfl) ⟨by decide, by decide⟩ dX2_execute_166 ?_
      generalize hg166 : (f_PT_put p (f_CO_rd xb) ((σ (iP p) 5) + (f_CO_immediateU xb)) σ) = g166
      have hI166 : Ic g166 := by rw [← hg166]; exact (I_PT_put p (f_CO_rd xb) ((σ (iP p) 5) + (f_CO_immediateU xb)) hI)
      refine v_iconst (v := 0) X dX2_execute_169 (by decide) ?_
      have e9 : f_MA_execute p xb σ = (0, g166) := by subst hg166; simp only [f_MA_execute, if_neg h4, if_neg h60_0, if_neg h60_1, if_pos h60_2]
      exact v_endI hend dX2_execute_170 (by rw [e9]) (by rw [e9])
    by_cases h60_3 : (f_CO_o xb) = 35
    ·
      refine v_lsw (off := 185) X 245 dX2_execute_60 (by decide) (by rw [h60_3] <;> rfl) (by decide) ?_
      refine v_aload_n X 5 dX2_execute_245 rfl rfl ?_
      refine v_aload_n X 6 dX2_execute_246 rfl rfl ?_
      refine v_iload X 2 dX2_execute_247 rfl ?_
      refine v_iload_n X 7 dX2_execute_249 rfl rfl ?_
      refine v_callS_CI (rest := [.int (f_PT_get p (f_CO_rs1 xb) σ), .ref (rh (iP p)), .ref (rh iMA)]) X [.int xb] (c_CO_immediateS xb σ ) mf_CO_immediateS ws_CO_immediateS wm_MA_151 rfl ⟨by decide, by decide⟩ (Nat.le_of_ble_eq_true rfl) ⟨by decide, by decide⟩ dX2_execute_250 ?_
      refine v_iadd X dX2_execute_253 ?_
      refine v_iload X 1 dX2_execute_254 rfl ?_
      refine v_callV_CI (rest := []) X [.ref (rh (iP p)), .int ((f_PT_get p (f_CO_rs1 xb) σ) + (f_CO_immediateS xb)), .int (f_PT_get p (f_CO_rs2 xb) σ)] (c_MA_write hp ((f_PT_get p (f_CO_rs1 xb) σ) + (f_CO_immediateS xb)) (f_PT_get p (f_CO_rs2 xb) σ) σ hI) mf_MA_write wi_MA_write wl_MA_write (lt_MA ) (sh_MA ) rfl wm_MA_154 rfl ⟨by decide, by decide⟩ (Nat.le_of_ble_eq_true rfl) ⟨by decide, by decide⟩ dX2_execute_256 ?_
      generalize hg256 : (f_MA_write p ((f_PT_get p (f_CO_rs1 xb) σ) + (f_CO_immediateS xb)) (f_PT_get p (f_CO_rs2 xb) σ) σ) = g256
      have hI256 : Ic g256.2 := by rw [← hg256]; exact (I_MA_write p ((f_PT_get p (f_CO_rs1 xb) σ) + (f_CO_immediateS xb)) (f_PT_get p (f_CO_rs2 xb) σ) hI)
      have e9 : f_MA_execute p xb σ = (g256.1, g256.2) := by subst hg256; simp only [f_MA_execute, if_neg h4, if_neg h60_0, if_neg h60_1, if_neg h60_2, if_pos h60_3]
      exact v_endI hend dX2_execute_259 (by rw [e9]) (by rw [e9])
    by_cases h60_4 : (f_CO_o xb) = 51
    ·
      refine v_lsw (off := 234) X 294 dX2_execute_60 (by decide) (by rw [h60_4] <;> rfl) (by decide) ?_
      refine v_aload_n X 6 dX2_execute_294 rfl rfl ?_
      refine v_iload_n X 4 dX2_execute_295 rfl rfl ?_
      refine v_iload X 3 dX2_execute_296 rfl ?_
      refine v_iload X 0 dX2_execute_298 rfl ?_
      refine v_iload X 2 dX2_execute_300 rfl ?_
      refine v_iload X 1 dX2_execute_302 rfl ?_
      refine v_callS_CI (rest := [.int (f_CO_rd xb), .ref (rh (iP p))]) X [.int (f_CO_f xb), .int ((if (f_CO_g xb) = 32 then 1 else 0) : Int32), .int (f_PT_get p (f_CO_rs1 xb) σ), .int (f_PT_get p (f_CO_rs2 xb) σ)] (c_RE_combined (f_CO_f xb) ((if (f_CO_g xb) = 32 then 1 else 0) : Int32) (f_PT_get p (f_CO_rs1 xb) σ) (f_PT_get p (f_CO_rs2 xb) σ) σ ) mf_RE_combined ws_RE_combined wm_MA_157 rfl ⟨by decide, by decide⟩ (Nat.le_of_ble_eq_true rfl) ⟨by decide, by decide⟩ dX2_execute_304 ?_
      refine v_callV_CV (rest := []) X [.int (f_CO_rd xb), .int (f_RE_combined (f_CO_f xb) ((if (f_CO_g xb) = 32 then 1 else 0) : Int32) (f_PT_get p (f_CO_rs1 xb) σ) (f_PT_get p (f_CO_rs2 xb) σ))] (c_PT_put hp (f_CO_rd xb) (f_RE_combined (f_CO_f xb) ((if (f_CO_g xb) = 32 then 1 else 0) : Int32) (f_PT_get p (f_CO_rs1 xb) σ) (f_PT_get p (f_CO_rs2 xb) σ)) σ ) mf_PT_put wi_PT_put wl_PT_put (lt_PT hp) (sh_PT hp) rfl wm_MA_125 rfl ⟨by decide, by decide⟩ (Nat.le_of_ble_eq_true rfl) ⟨by decide, by decide⟩ dX2_execute_307 ?_
      generalize hg307 : (f_PT_put p (f_CO_rd xb) (f_RE_combined (f_CO_f xb) ((if (f_CO_g xb) = 32 then 1 else 0) : Int32) (f_PT_get p (f_CO_rs1 xb) σ) (f_PT_get p (f_CO_rs2 xb) σ)) σ) = g307
      have hI307 : Ic g307 := by rw [← hg307]; exact (I_PT_put p (f_CO_rd xb) (f_RE_combined (f_CO_f xb) ((if (f_CO_g xb) = 32 then 1 else 0) : Int32) (f_PT_get p (f_CO_rs1 xb) σ) (f_PT_get p (f_CO_rs2 xb) σ)) hI)
      refine v_iconst (v := 0) X dX2_execute_310 (by decide) ?_
      have e9 : f_MA_execute p xb σ = (0, g307) := by subst hg307; simp only [f_MA_execute, if_neg h4, if_neg h60_0, if_neg h60_1, if_neg h60_2, if_neg h60_3, if_pos h60_4]
      exact v_endI hend dX2_execute_311 (by rw [e9]) (by rw [e9])
    by_cases h60_5 : (f_CO_o xb) = 55
    ·
      refine v_lsw (off := 84) X 144 dX2_execute_60 (by decide) (by rw [h60_5] <;> rfl) (by decide) ?_
      refine v_aload_n X 6 dX2_execute_144 rfl rfl ?_
      refine v_iload_n X 4 dX2_execute_145 rfl rfl ?_
      refine v_iload_n X 7 dX2_execute_146 rfl rfl ?_
      refine v_callS_CI (rest := [.int (f_CO_rd xb), .ref (rh (iP p))]) X [.int xb] (c_CO_immediateU xb σ ) mf_CO_immediateU ws_CO_immediateU wm_MA_122 rfl ⟨by decide, by decide⟩ (Nat.le_of_ble_eq_true rfl) ⟨by decide, by decide⟩ dX2_execute_147 ?_
      refine v_callV_CV (rest := []) X [.int (f_CO_rd xb), .int (f_CO_immediateU xb)] (c_PT_put hp (f_CO_rd xb) (f_CO_immediateU xb) σ ) mf_PT_put wi_PT_put wl_PT_put (lt_PT hp) (sh_PT hp) rfl wm_MA_125 rfl ⟨by decide, by decide⟩ (Nat.le_of_ble_eq_true rfl) ⟨by decide, by decide⟩ dX2_execute_150 ?_
      generalize hg150 : (f_PT_put p (f_CO_rd xb) (f_CO_immediateU xb) σ) = g150
      have hI150 : Ic g150 := by rw [← hg150]; exact (I_PT_put p (f_CO_rd xb) (f_CO_immediateU xb) hI)
      refine v_iconst (v := 0) X dX2_execute_153 (by decide) ?_
      have e9 : f_MA_execute p xb σ = (0, g150) := by subst hg150; simp only [f_MA_execute, if_neg h4, if_neg h60_0, if_neg h60_1, if_neg h60_2, if_neg h60_3, if_neg h60_4, if_pos h60_5]
      exact v_endI hend dX2_execute_154 (by rw [e9]) (by rw [e9])
    by_cases h60_6 : (f_CO_o xb) = 99
    ·
      refine v_lsw (off := 144) X 204 dX2_execute_60 (by decide) (by rw [h60_6] <;> rfl) (by decide) ?_
      refine v_iload X 3 dX2_execute_204 rfl ?_
      refine v_iload X 2 dX2_execute_206 rfl ?_
      refine v_iload X 1 dX2_execute_208 rfl ?_
      refine v_callS_CI (rest := []) X [.int (f_CO_f xb), .int (f_PT_get p (f_CO_rs1 xb) σ), .int (f_PT_get p (f_CO_rs2 xb) σ)] (c_RE_branches (f_CO_f xb) (f_PT_get p (f_CO_rs1 xb) σ) (f_PT_get p (f_CO_rs2 xb) σ) σ ) mf_RE_branches ws_RE_branches wm_MA_139 rfl ⟨by decide, by decide⟩ (Nat.le_of_ble_eq_true rfl) ⟨by decide, by decide⟩ dX2_execute_210 ?_
      refine v_if_eq X 229 dX2_execute_213 (by decide) (fun h213 => ?_) (fun h213 => ?_)
      ·
        refine v_iconst (v := 0) X dX2_execute_229 (by decide) ?_
        have e9 : f_MA_execute p xb σ = (0, σ) := by simp only [f_MA_execute, if_neg h4, if_neg h60_0, if_neg h60_1, if_neg h60_2, if_neg h60_3, if_neg h60_4, if_neg h60_5, if_pos h60_6, if_pos h213]
        exact v_endI hend dX2_execute_230 (by rw [e9]) (by rw [e9])
      ·
        refine v_aload_n X 5 dX2_execute_216 rfl rfl ?_
        refine v_aload_n X 6 dX2_execute_217 rfl rfl ?_
        refine v_getI (i := (iP p)) (k := 5) X (lt_PT hp) (sh_PT hp) rfl in_PT (by decide) wf_MA_73 rfl (fun _ => rfl) dX2_execute_218 ?_
        refine v_iload_n X 7 dX2_execute_221 rfl rfl ?_
        refine v_callS_CI (rest := [.int (σ (iP p) 5), .ref (rh iMA)]) X [.int xb] (c_CO_immediateB xb σ ) mf_CO_immediateB ws_CO_immediateB wm_MA_145 rfl ⟨by decide, by decide⟩ (Nat.le_of_ble_eq_true rfl) ⟨by decide, by decide⟩ dX2_execute_222 ?_
        refine v_iadd X dX2_execute_225 ?_
        refine v_put (i := iMA) (k := 6) (x := ((σ (iP p) 5) + (f_CO_immediateB xb))) (ty := .int) X (lt_MA ) (sh_MA ) rfl in_MA (by decide) tyX2 tyX2_ok nX2 wf_MA_45 rfl rfl rfl rfl rfl (fun _ => Nat.le_of_ble_eq_true rfl) (fun _ _ => rfl) dX2_execute_226 ?_
        generalize hg226 : (up σ iMA 6 ((σ (iP p) 5) + (f_CO_immediateB xb))) = g226
        have hI226 : Ic g226 := by rw [← hg226]; exact (Ic.upMA hI)
        refine v_iconst (v := 0) X dX2_execute_229 (by decide) ?_
        have e9 : f_MA_execute p xb σ = (0, g226) := by subst hg226; simp only [f_MA_execute, if_neg h4, if_neg h60_0, if_neg h60_1, if_neg h60_2, if_neg h60_3, if_neg h60_4, if_neg h60_5, if_pos h60_6, if_neg h213]
        exact v_endI hend dX2_execute_230 (by rw [e9]) (by rw [e9])
    by_cases h60_7 : (f_CO_o xb) = 103
    ·
      refine v_lsw (off := 127) X 187 dX2_execute_60 (by decide) (by rw [h60_7] <;> rfl) (by decide) ?_
      refine v_aload_n X 5 dX2_execute_187 rfl rfl ?_
      refine v_aload_n X 6 dX2_execute_188 rfl rfl ?_
      refine v_iload_n X 4 dX2_execute_189 rfl rfl ?_
      refine v_iload X 2 dX2_execute_190 rfl ?_
      refine v_iload_n X 7 dX2_execute_192 rfl rfl ?_
      refine v_callS_CI (rest := [.int (f_PT_get p (f_CO_rs1 xb) σ), .int (f_CO_rd xb), .ref (rh (iP p)), .ref (rh iMA)]) X [.int xb] (c_CO_immediateI xb σ ) mf_CO_immediateI ws_CO_immediateI wm_MA_136 rfl ⟨by decide, by decide⟩ (Nat.le_of_ble_eq_true rfl) ⟨by decide, by decide⟩ dX2_execute_193 ?_
      refine v_iadd X dX2_execute_196 ?_
      refine v_bipush (v := (-2)) X dX2_execute_197 (by decide) ?_
      refine v_iand X dX2_execute_199 ?_
      refine v_callV_CI (rest := []) X [.ref (rh (iP p)), .int (f_CO_rd xb), .int (((f_PT_get p (f_CO_rs1 xb) σ) + (f_CO_immediateI xb)) &&& (-2))] (c_MA_jump hp (f_CO_rd xb) (((f_PT_get p (f_CO_rs1 xb) σ) + (f_CO_immediateI xb)) &&& (-2)) σ ) mf_MA_jump wi_MA_jump wl_MA_jump (lt_MA ) (sh_MA ) rfl wm_MA_132 rfl ⟨by decide, by decide⟩ (Nat.le_of_ble_eq_true rfl) ⟨by decide, by decide⟩ dX2_execute_200 ?_
      generalize hg200 : (f_MA_jump p (f_CO_rd xb) (((f_PT_get p (f_CO_rs1 xb) σ) + (f_CO_immediateI xb)) &&& (-2)) σ) = g200
      have hI200 : Ic g200.2 := by rw [← hg200]; exact (I_MA_jump p (f_CO_rd xb) (((f_PT_get p (f_CO_rs1 xb) σ) + (f_CO_immediateI xb)) &&& (-2)) hI)
      have e9 : f_MA_execute p xb σ = (g200.1, g200.2) := by subst hg200; simp only [f_MA_execute, if_neg h4, if_neg h60_0, if_neg h60_1, if_neg h60_2, if_neg h60_3, if_neg h60_4, if_neg h60_5, if_neg h60_6, if_pos h60_7]
      exact v_endI hend dX2_execute_203 (by rw [e9]) (by rw [e9])
    by_cases h60_8 : (f_CO_o xb) = 111
    ·
      refine v_lsw (off := 111) X 171 dX2_execute_60 (by decide) (by rw [h60_8] <;> rfl) (by decide) ?_
      refine v_aload_n X 5 dX2_execute_171 rfl rfl ?_
      refine v_aload_n X 6 dX2_execute_172 rfl rfl ?_
      refine v_iload_n X 4 dX2_execute_173 rfl rfl ?_
      refine v_aload_n X 6 dX2_execute_174 rfl rfl ?_
      refine v_getI (i := (iP p)) (k := 5) X (lt_PT hp) (sh_PT hp) rfl in_PT (by decide) wf_MA_73 rfl (fun _ => rfl) dX2_execute_175 ?_
      refine v_iload_n X 7 dX2_execute_178 rfl rfl ?_
      refine v_callS_CI (rest := [.int (σ (iP p) 5), .int (f_CO_rd xb), .ref (rh (iP p)), .ref (rh iMA)]) X [.int xb] (c_CO_immediateJ xb σ ) mf_CO_immediateJ ws_CO_immediateJ wm_MA_129 rfl ⟨by decide, by decide⟩ (Nat.le_of_ble_eq_true rfl) ⟨by decide, by decide⟩ dX2_execute_179 ?_
      refine v_iadd X dX2_execute_182 ?_
      refine v_callV_CI (rest := []) X [.ref (rh (iP p)), .int (f_CO_rd xb), .int ((σ (iP p) 5) + (f_CO_immediateJ xb))] (c_MA_jump hp (f_CO_rd xb) ((σ (iP p) 5) + (f_CO_immediateJ xb)) σ ) mf_MA_jump wi_MA_jump wl_MA_jump (lt_MA ) (sh_MA ) rfl wm_MA_132 rfl ⟨by decide, by decide⟩ (Nat.le_of_ble_eq_true rfl) ⟨by decide, by decide⟩ dX2_execute_183 ?_
      generalize hg183 : (f_MA_jump p (f_CO_rd xb) ((σ (iP p) 5) + (f_CO_immediateJ xb)) σ) = g183
      have hI183 : Ic g183.2 := by rw [← hg183]; exact (I_MA_jump p (f_CO_rd xb) ((σ (iP p) 5) + (f_CO_immediateJ xb)) hI)
      have e9 : f_MA_execute p xb σ = (g183.1, g183.2) := by subst hg183; simp only [f_MA_execute, if_neg h4, if_neg h60_0, if_neg h60_1, if_neg h60_2, if_neg h60_3, if_neg h60_4, if_neg h60_5, if_neg h60_6, if_neg h60_7, if_pos h60_8]
      exact v_endI hend dX2_execute_186 (by rw [e9]) (by rw [e9])
    refine v_lsw (off := 252) X 312 dX2_execute_60 (by decide) (by rw [lv_osw h60_0 (by decide)]; rw [lv_osw h60_1 (by decide)]; rw [lv_osw h60_2 (by decide)]; rw [lv_osw h60_3 (by decide)]; rw [lv_osw h60_4 (by decide)]; rw [lv_osw h60_5 (by decide)]; rw [lv_osw h60_6 (by decide)]; rw [lv_osw h60_7 (by decide)]; rw [lv_osw h60_8 (by decide)] <;> rfl) (by decide) ?_
    refine v_iload_n X 7 dX2_execute_312 rfl rfl ?_
    refine v_bipush (v := 115) X dX2_execute_313 (by decide) ?_
    refine v_icmp_ne X 326 dX2_execute_315 (by decide) (fun h315 => ?_) (fun h315 => ?_)
    ·
      refine v_iconst (v := 4) X dX2_execute_326 (by decide) ?_
      have e9 : f_MA_execute p xb σ = (4, σ) := by simp only [f_MA_execute, if_neg h4, if_neg h60_0, if_neg h60_1, if_neg h60_2, if_neg h60_3, if_neg h60_4, if_neg h60_5, if_neg h60_6, if_neg h60_7, if_neg h60_8, if_neg h315]
      exact v_endI hend dX2_execute_327 (by rw [e9]) (by rw [e9])
    ·
      refine v_aload_n X 5 dX2_execute_318 rfl rfl ?_
      refine v_aload_n X 6 dX2_execute_319 rfl rfl ?_
      refine v_callV_CI (rest := []) X [.ref (rh (iP p))] (c_MA_serve hp σ ) mf_MA_serve wi_MA_serve wl_MA_serve (lt_MA ) (sh_MA ) rfl wm_MA_161 rfl ⟨by decide, by decide⟩ (Nat.le_of_ble_eq_true rfl) ⟨by decide, by decide⟩ dX2_execute_320 ?_
      generalize hg320 : (f_MA_serve p σ) = g320
      have hI320 : Ic g320.2 := by rw [← hg320]; exact (I_MA_serve p hI)
      refine v_goto (tgt := 327) X dX2_execute_323 (by decide) ?_
      have e9 : f_MA_execute p xb σ = (g320.1, g320.2) := by subst hg320; simp only [f_MA_execute, if_neg h4, if_neg h60_0, if_neg h60_1, if_neg h60_2, if_neg h60_3, if_neg h60_4, if_neg h60_5, if_neg h60_6, if_neg h60_7, if_neg h60_8, if_pos h315]
      exact v_endI hend dX2_execute_327 (by rw [e9]) (by rw [e9])
  ·
    refine v_iconst (v := 1) X dX2_execute_7 (by decide) ?_
    have e9 : f_MA_execute p xb σ = (1, σ) := by simp only [f_MA_execute, if_pos h4]
    exact v_endI hend dX2_execute_8 (by rw [e9]) (by rw [e9])
theorem I_MA_execute (p : Nat) (xb : Int32) {σ : St} (hI : Ic σ) : Ic (f_MA_execute p xb σ).2 := by
  unfold f_MA_execute
  exact (ic_ite2 (fun _ => hI) (fun _ => (ic_ite2 (fun _ => (I_MA_readInto p (f_CO_rd xb) ((f_PT_get p (f_CO_rs1 xb) σ) + (f_CO_immediateI xb)) hI)) (fun _ => (ic_ite2 (fun _ => (I_PT_put p (f_CO_rd xb) (f_RE_combined (f_CO_f xb) ((if ((if (f_CO_g xb) = 32 then 1 else 0) : Int32) = 0 then 0 else (if (f_CO_f xb) = 5 then 1 else 0)) : Int32) (f_PT_get p (f_CO_rs1 xb) σ) (f_CO_immediateI xb)) hI)) (fun _ => (ic_ite2 (fun _ => (I_PT_put p (f_CO_rd xb) ((σ (iP p) 5) + (f_CO_immediateU xb)) hI)) (fun _ => (ic_ite2 (fun _ => (I_MA_write p ((f_PT_get p (f_CO_rs1 xb) σ) + (f_CO_immediateS xb)) (f_PT_get p (f_CO_rs2 xb) σ) hI)) (fun _ => (ic_ite2 (fun _ => (I_PT_put p (f_CO_rd xb) (f_RE_combined (f_CO_f xb) ((if (f_CO_g xb) = 32 then 1 else 0) : Int32) (f_PT_get p (f_CO_rs1 xb) σ) (f_PT_get p (f_CO_rs2 xb) σ)) hI)) (fun _ => (ic_ite2 (fun _ => (I_PT_put p (f_CO_rd xb) (f_CO_immediateU xb) hI)) (fun _ => (ic_ite2 (fun _ => (ic_ite2 (fun _ => hI) (fun _ => (Ic.upMA hI)))) (fun _ => (ic_ite2 (fun _ => (I_MA_jump p (f_CO_rd xb) (((f_PT_get p (f_CO_rs1 xb) σ) + (f_CO_immediateI xb)) &&& (-2)) hI)) (fun _ => (ic_ite2 (fun _ => (I_MA_jump p (f_CO_rd xb) ((σ (iP p) 5) + (f_CO_immediateJ xb)) hI)) (fun _ => (ic_ite2 (fun _ => (I_MA_serve p hI)) (fun _ => hI))))))))))))))))))))))
def f_MA_step (p : Nat) (σ : St) : St :=
  (if (f_MA_fetchFault p (up (f_PT_noteBegun p σ) iMA 6 (((f_PT_noteBegun p σ) (iP p) 5) + 4))) = 0 then (if (f_MA_execute p ((up (f_PT_noteBegun p σ) iMA 6 (((f_PT_noteBegun p σ) (iP p) 5) + 4)) iWO ((((up (f_PT_noteBegun p σ) iMA 6 (((f_PT_noteBegun p σ) (iP p) 5) + 4)) (iP p) 1) + (((up (f_PT_noteBegun p σ) iMA 6 (((f_PT_noteBegun p σ) (iP p) 5) + 4)) (iP p) 5) / 4))).toNatClampNeg) (up (f_PT_noteBegun p σ) iMA 6 (((f_PT_noteBegun p σ) (iP p) 5) + 4))).1 = 0 then (up (f_MA_execute p ((up (f_PT_noteBegun p σ) iMA 6 (((f_PT_noteBegun p σ) (iP p) 5) + 4)) iWO ((((up (f_PT_noteBegun p σ) iMA 6 (((f_PT_noteBegun p σ) (iP p) 5) + 4)) (iP p) 1) + (((up (f_PT_noteBegun p σ) iMA 6 (((f_PT_noteBegun p σ) (iP p) 5) + 4)) (iP p) 5) / 4))).toNatClampNeg) (up (f_PT_noteBegun p σ) iMA 6 (((f_PT_noteBegun p σ) (iP p) 5) + 4))).2 (iP p) 5 ((f_MA_execute p ((up (f_PT_noteBegun p σ) iMA 6 (((f_PT_noteBegun p σ) (iP p) 5) + 4)) iWO ((((up (f_PT_noteBegun p σ) iMA 6 (((f_PT_noteBegun p σ) (iP p) 5) + 4)) (iP p) 1) + (((up (f_PT_noteBegun p σ) iMA 6 (((f_PT_noteBegun p σ) (iP p) 5) + 4)) (iP p) 5) / 4))).toNatClampNeg) (up (f_PT_noteBegun p σ) iMA 6 (((f_PT_noteBegun p σ) (iP p) 5) + 4))).2 iMA 6)) else (f_PT_suffer p (f_MA_execute p ((up (f_PT_noteBegun p σ) iMA 6 (((f_PT_noteBegun p σ) (iP p) 5) + 4)) iWO ((((up (f_PT_noteBegun p σ) iMA 6 (((f_PT_noteBegun p σ) (iP p) 5) + 4)) (iP p) 1) + (((up (f_PT_noteBegun p σ) iMA 6 (((f_PT_noteBegun p σ) (iP p) 5) + 4)) (iP p) 5) / 4))).toNatClampNeg) (up (f_PT_noteBegun p σ) iMA 6 (((f_PT_noteBegun p σ) (iP p) 5) + 4))).1 (f_MA_execute p ((up (f_PT_noteBegun p σ) iMA 6 (((f_PT_noteBegun p σ) (iP p) 5) + 4)) iWO ((((up (f_PT_noteBegun p σ) iMA 6 (((f_PT_noteBegun p σ) (iP p) 5) + 4)) (iP p) 1) + (((up (f_PT_noteBegun p σ) iMA 6 (((f_PT_noteBegun p σ) (iP p) 5) + 4)) (iP p) 5) / 4))).toNatClampNeg) (up (f_PT_noteBegun p σ) iMA 6 (((f_PT_noteBegun p σ) (iP p) 5) + 4))).2)) else (f_PT_suffer p (f_MA_fetchFault p (up (f_PT_noteBegun p σ) iMA 6 (((f_PT_noteBegun p σ) (iP p) 5) + 4))) (up (f_PT_noteBegun p σ) iMA 6 (((f_PT_noteBegun p σ) (iP p) 5) + 4))))
set_option maxHeartbeats 4000000 in
set_option maxRecDepth 100000 in
theorem c_MA_step {p : Nat} (hp : p < 4) (σ : St) (hI : Ic σ) : CV l D (tyL cA) rh (rcW rh cA) NW yX2_step cX2_step 3 4 [.ref (rh iMA), .ref (rh (iP p))] σ (f_MA_step p σ) := by
  refine CV.of rfl (Nat.le_of_ble_eq_true rfl) ?_
  intro p9 e s m args below meth c A Q X hend
  refine v_lv (lv' := [(0, .ref (rh iMA)), (1, .ref (rh (iP p)))]) [0, 1] rfl ?_
  refine v_aload_n X 1 dX2_step_0 rfl rfl ?_
  refine v_callV_CV (rest := []) X [] (c_PT_noteBegun hp σ ) mf_PT_noteBegun wi_PT_noteBegun wl_PT_noteBegun (lt_PT hp) (sh_PT hp) rfl wm_MA_70 rfl ⟨by decide, by decide⟩ (Nat.le_of_ble_eq_true rfl) ⟨by decide, by decide⟩ dX2_step_1 ?_
  generalize hg1 : (f_PT_noteBegun p σ) = g1
  have hI1 : Ic g1 := by rw [← hg1]; exact (I_PT_noteBegun p hI)
  refine v_aload_n X 0 dX2_step_4 rfl rfl ?_
  refine v_aload_n X 1 dX2_step_5 rfl rfl ?_
  refine v_getI (i := (iP p)) (k := 5) X (lt_PT hp) (sh_PT hp) rfl in_PT (by decide) wf_MA_73 rfl (fun _ => rfl) dX2_step_6 ?_
  refine v_iconst (v := 4) X dX2_step_9 (by decide) ?_
  refine v_iadd X dX2_step_10 ?_
  refine v_put (i := iMA) (k := 6) (x := ((g1 (iP p) 5) + 4)) (ty := .int) X (lt_MA ) (sh_MA ) rfl in_MA (by decide) tyX2 tyX2_ok nX2 wf_MA_45 rfl rfl rfl rfl rfl (fun _ => Nat.le_of_ble_eq_true rfl) (fun _ _ => rfl) dX2_step_11 ?_
  generalize hg11 : (up g1 iMA 6 ((g1 (iP p) 5) + 4)) = g11
  have hI11 : Ic g11 := by rw [← hg11]; exact (Ic.upMA hI1)
  refine v_aload_n X 1 dX2_step_14 rfl rfl ?_
  refine v_callS_CI (rest := []) X [.ref (rh (iP p))] (c_MA_fetchFault hp g11 ) mf_MA_fetchFault ws_MA_fetchFault wm_MA_76 rfl ⟨by decide, by decide⟩ (Nat.le_of_ble_eq_true rfl) ⟨by decide, by decide⟩ dX2_step_15 ?_
  refine v_istore_n (lv' := [(2, .int (f_MA_fetchFault p g11)), (0, .ref (rh iMA)), (1, .ref (rh (iP p)))]) X dX2_step_18 rfl (by decide) rfl ?_
  refine v_iload_n X 0 dX2_step_19 rfl rfl ?_
  refine v_if_ne X 45 dX2_step_20 (by decide) (fun h20 => ?_) (fun h20 => ?_)
  ·
    refine v_iload_n X 0 dX2_step_45 rfl rfl ?_
    refine v_if_ne X 60 dX2_step_46 (by decide) (fun h46 => ?_) (fun h46 => ?_)
    ·
      refine v_aload_n X 2 dX2_step_60 rfl rfl ?_
      refine v_iload_n X 0 dX2_step_61 rfl rfl ?_
      refine v_aload_n X 1 dX2_step_62 rfl rfl ?_
      refine v_getR (j := iWO) (i := iMA) (k := 1) X (lt_MA ) (sh_MA ) rfl in_MA (by decide) wf_MA_15 rfl (fun _ => rfl) dX2_step_63 ?_
      refine v_callV_CV (rest := []) X [.int (f_MA_fetchFault p g11), .ref (rh iWO)] (c_PT_suffer hp (f_MA_fetchFault p g11) g11 hI11) mf_PT_suffer wi_PT_suffer wl_PT_suffer (lt_PT hp) (sh_PT hp) rfl wm_MA_87 rfl ⟨by decide, by decide⟩ (Nat.le_of_ble_eq_true rfl) ⟨by decide, by decide⟩ dX2_step_66 ?_
      generalize hg66 : (f_PT_suffer p (f_MA_fetchFault p g11) g11) = g66
      have hI66 : Ic g66 := by rw [← hg66]; exact (I_PT_suffer p (f_MA_fetchFault p g11) hI11)
      have e9 : f_MA_step p σ = g66 := by subst hg1; subst hg11; subst hg66; simp only [f_MA_step, if_neg h20]
      exact v_endV hend dX2_step_69 e9
    · exact absurd h46 h20
  ·
    refine v_aload_n X 1 dX2_step_23 rfl rfl ?_
    refine v_aload_n X 2 dX2_step_24 rfl rfl ?_
    refine v_aload_n X 1 dX2_step_25 rfl rfl ?_
    refine v_getR (j := iWO) (i := iMA) (k := 1) X (lt_MA ) (sh_MA ) rfl in_MA (by decide) wf_MA_15 rfl (fun _ => rfl) dX2_step_26 ?_
    refine v_aload_n X 2 dX2_step_29 rfl rfl ?_
    refine v_getI (i := (iP p)) (k := 1) X (lt_PT hp) (sh_PT hp) rfl in_PT (by decide) wf_MA_80 rfl (fun _ => rfl) dX2_step_30 ?_
    refine v_aload_n X 2 dX2_step_33 rfl rfl ?_
    refine v_getI (i := (iP p)) (k := 5) X (lt_PT hp) (sh_PT hp) rfl in_PT (by decide) wf_MA_73 rfl (fun _ => rfl) dX2_step_34 ?_
    refine v_iconst (v := 4) X dX2_step_37 (by decide) ?_
    refine v_idiv X (by decide) dX2_step_38 ?_
    refine v_iadd X dX2_step_39 ?_
    have hv40 : vp_in ((g11 (iP p) 1) + ((g11 (iP p) 5) / 4)) 96 := (ff_in hI11 hp h20)
    refine v_iald (i := iWO) (t0 := 0) X (lt_WO ) (sh_WO ) rfl hv40 dX2_step_40 ?_
    refine v_callV_CI (rest := []) X [.ref (rh (iP p)), .int (g11 iWO (((g11 (iP p) 1) + ((g11 (iP p) 5) / 4))).toNatClampNeg)] (c_MA_execute hp (g11 iWO (((g11 (iP p) 1) + ((g11 (iP p) 5) / 4))).toNatClampNeg) g11 hI11) mf_MA_execute wi_MA_execute wl_MA_execute (lt_MA ) (sh_MA ) rfl wm_MA_83 rfl ⟨by decide, by decide⟩ (Nat.le_of_ble_eq_true rfl) ⟨by decide, by decide⟩ dX2_step_41 ?_
    generalize hg41 : (f_MA_execute p (g11 iWO (((g11 (iP p) 1) + ((g11 (iP p) 5) / 4))).toNatClampNeg) g11) = g41
    have hI41 : Ic g41.2 := by rw [← hg41]; exact (I_MA_execute p (g11 iWO (((g11 (iP p) 1) + ((g11 (iP p) 5) / 4))).toNatClampNeg) hI11)
    refine v_istore_n (lv' := [(2, .int g41.1), (0, .ref (rh iMA)), (1, .ref (rh (iP p)))]) X dX2_step_44 rfl (by decide) rfl ?_
    refine v_iload_n X 0 dX2_step_45 rfl rfl ?_
    refine v_if_ne X 60 dX2_step_46 (by decide) (fun h46 => ?_) (fun h46 => ?_)
    ·
      refine v_aload_n X 2 dX2_step_60 rfl rfl ?_
      refine v_iload_n X 0 dX2_step_61 rfl rfl ?_
      refine v_aload_n X 1 dX2_step_62 rfl rfl ?_
      refine v_getR (j := iWO) (i := iMA) (k := 1) X (lt_MA ) (sh_MA ) rfl in_MA (by decide) wf_MA_15 rfl (fun _ => rfl) dX2_step_63 ?_
      refine v_callV_CV (rest := []) X [.int g41.1, .ref (rh iWO)] (c_PT_suffer hp g41.1 g41.2 hI41) mf_PT_suffer wi_PT_suffer wl_PT_suffer (lt_PT hp) (sh_PT hp) rfl wm_MA_87 rfl ⟨by decide, by decide⟩ (Nat.le_of_ble_eq_true rfl) ⟨by decide, by decide⟩ dX2_step_66 ?_
      generalize hg66 : (f_PT_suffer p g41.1 g41.2) = g66
      have hI66 : Ic g66 := by rw [← hg66]; exact (I_PT_suffer p g41.1 hI41)
      have e9 : f_MA_step p σ = g66 := by subst hg1; subst hg11; subst hg41; subst hg66; simp only [f_MA_step, if_pos h20, if_neg h46]
      exact v_endV hend dX2_step_69 e9
    ·
      refine v_aload_n X 2 dX2_step_49 rfl rfl ?_
      refine v_aload_n X 1 dX2_step_50 rfl rfl ?_
      refine v_getI (i := iMA) (k := 6) X (lt_MA ) (sh_MA ) rfl in_MA (by decide) wf_MA_45 rfl (fun _ => rfl) dX2_step_51 ?_
      refine v_put (i := (iP p)) (k := 5) (x := (g41.2 iMA 6)) (ty := .int) X (lt_PT hp) (sh_PT hp) rfl in_PT (by decide) tyX3 tyX3_ok nX3 wf_MA_73 rfl rfl rfl rfl rfl (fun _ => Nat.le_of_ble_eq_true rfl) (fun _ _ => rfl) dX2_step_54 ?_
      generalize hg54 : (up g41.2 (iP p) 5 (g41.2 iMA 6)) = g54
      have hI54 : Ic g54 := by rw [← hg54]; exact (Ic.upPT hI41 (by decide))
      refine v_goto (tgt := 69) X dX2_step_57 (by decide) ?_
      have e9 : f_MA_step p σ = g54 := by subst hg1; subst hg11; subst hg41; subst hg54; simp only [f_MA_step, if_pos h20, if_pos h46]
      exact v_endV hend dX2_step_69 e9
theorem I_MA_step (p : Nat) {σ : St} (hI : Ic σ) : Ic (f_MA_step p σ) := by
  unfold f_MA_step
  exact (ic_ite (fun _ => (ic_ite (fun _ => (Ic.upPT (I_MA_execute p ((up (f_PT_noteBegun p σ) iMA 6 (((f_PT_noteBegun p σ) (iP p) 5) + 4)) iWO ((((up (f_PT_noteBegun p σ) iMA 6 (((f_PT_noteBegun p σ) (iP p) 5) + 4)) (iP p) 1) + (((up (f_PT_noteBegun p σ) iMA 6 (((f_PT_noteBegun p σ) (iP p) 5) + 4)) (iP p) 5) / 4))).toNatClampNeg) (Ic.upMA (I_PT_noteBegun p hI))) (by decide))) (fun _ => (I_PT_suffer p (f_MA_execute p ((up (f_PT_noteBegun p σ) iMA 6 (((f_PT_noteBegun p σ) (iP p) 5) + 4)) iWO ((((up (f_PT_noteBegun p σ) iMA 6 (((f_PT_noteBegun p σ) (iP p) 5) + 4)) (iP p) 1) + (((up (f_PT_noteBegun p σ) iMA 6 (((f_PT_noteBegun p σ) (iP p) 5) + 4)) (iP p) 5) / 4))).toNatClampNeg) (up (f_PT_noteBegun p σ) iMA 6 (((f_PT_noteBegun p σ) (iP p) 5) + 4))).1 (I_MA_execute p ((up (f_PT_noteBegun p σ) iMA 6 (((f_PT_noteBegun p σ) (iP p) 5) + 4)) iWO ((((up (f_PT_noteBegun p σ) iMA 6 (((f_PT_noteBegun p σ) (iP p) 5) + 4)) (iP p) 1) + (((up (f_PT_noteBegun p σ) iMA 6 (((f_PT_noteBegun p σ) (iP p) 5) + 4)) (iP p) 5) / 4))).toNatClampNeg) (Ic.upMA (I_PT_noteBegun p hI))))))) (fun _ => (I_PT_suffer p (f_MA_fetchFault p (up (f_PT_noteBegun p σ) iMA 6 (((f_PT_noteBegun p σ) (iP p) 5) + 4))) (Ic.upMA (I_PT_noteBegun p hI)))))
end CLS
end
section
theorem mf_MA_step : MF yX2_step cX2_step 3 none 1 := ⟨gw_of (by decide +kernel) rfl, gw_of (by decide +kernel) rfl, by decide +kernel, by decide +kernel, by decide +kernel⟩
theorem mf_TT_endsWindow : MF yX6_endsWindow cX6_endsWindow 1 (some .boolean) 0 := ⟨gw_of (by decide +kernel) rfl, gw_of (by decide +kernel) rfl, by decide +kernel, by decide +kernel, by decide +kernel⟩
theorem mf_TT_partitionNow : MF yX6_partitionNow cX6_partitionNow 1 (some .int) 0 := ⟨gw_of (by decide +kernel) rfl, gw_of (by decide +kernel) rfl, by decide +kernel, by decide +kernel, by decide +kernel⟩
theorem wf_SM_12 : Cond.fieldLink RX7 12 RX7 "machine" "LSeparationMonitor$Machine;" ∈ gw := gw_of (by decide +kernel) rfl
theorem wf_SM_147 : Cond.fieldLink RX7 147 RX2 "time" "I" ∈ gw := gw_of (by decide +kernel) rfl
theorem wf_SM_162 : Cond.fieldLink RX7 162 RX3 "ready" "Z" ∈ gw := gw_of (by decide +kernel) rfl
theorem wf_SM_165 : Cond.fieldLink RX7 165 RX3 "resting" "Z" ∈ gw := gw_of (by decide +kernel) rfl
theorem wf_SM_21 : Cond.fieldLink RX7 21 RX7 "timetable" "LSeparationMonitor$Timetable;" ∈ gw := gw_of (by decide +kernel) rfl
theorem wf_SM_57 : Cond.fieldLink RX7 57 RX2 "partitions" "[LSeparationMonitor$Partition;" ∈ gw := gw_of (by decide +kernel) rfl
theorem wi_MA_step : Cond.instanceMethod yX2_step ∈ gw := gw_of (by decide +kernel) rfl
theorem wi_TT_endsWindow : Cond.instanceMethod yX6_endsWindow ∈ gw := gw_of (by decide +kernel) rfl
theorem wi_TT_partitionNow : Cond.instanceMethod yX6_partitionNow ∈ gw := gw_of (by decide +kernel) rfl
theorem wl_MA_step : Cond.selects yX2_step.cls yX2_step yX2_step ∈ gw := gw_of (by decide +kernel) rfl
theorem wl_TT_endsWindow : Cond.selects yX6_endsWindow.cls yX6_endsWindow yX6_endsWindow ∈ gw := gw_of (by decide +kernel) rfl
theorem wl_TT_partitionNow : Cond.selects yX6_partitionNow.cls yX6_partitionNow yX6_partitionNow ∈ gw := gw_of (by decide +kernel) rfl
theorem wm_SM_159 : Cond.methodLink RX7 159 yX6_partitionNow ∈ gw := gw_of (by decide +kernel) rfl
theorem wm_SM_168 : Cond.methodLink RX7 168 yX2_step ∈ gw := gw_of (by decide +kernel) rfl
theorem wm_SM_172 : Cond.methodLink RX7 172 yX6_endsWindow ∈ gw := gw_of (by decide +kernel) rfl
section CLS
variable {l : Launch} {D : va_G} {rh : Nat → Nat} {cA : Nat → ClassId}
def f_SM_tick (σ : St) : Int32 × St :=
  (if ((if ((up σ iMA 5 ((σ iMA 5) + 1)) (iP ((f_TT_partitionNow (up σ iMA 5 ((σ iMA 5) + 1)))).toNatClampNeg) 6) = 0 then 0 else (if ((up σ iMA 5 ((σ iMA 5) + 1)) (iP ((f_TT_partitionNow (up σ iMA 5 ((σ iMA 5) + 1)))).toNatClampNeg) 7) = 0 then 1 else 0)) : Int32) = 0 then (if (f_TT_endsWindow (up σ iMA 5 ((σ iMA 5) + 1))).1 = 0 then (((if ((up σ iMA 5 ((σ iMA 5) + 1)) (iP ((f_TT_partitionNow (up σ iMA 5 ((σ iMA 5) + 1)))).toNatClampNeg) 6) = 0 then 0 else (if ((up σ iMA 5 ((σ iMA 5) + 1)) (iP ((f_TT_partitionNow (up σ iMA 5 ((σ iMA 5) + 1)))).toNatClampNeg) 7) = 0 then 1 else 0)) : Int32), (f_TT_endsWindow (up σ iMA 5 ((σ iMA 5) + 1))).2) else (((if ((up σ iMA 5 ((σ iMA 5) + 1)) (iP ((f_TT_partitionNow (up σ iMA 5 ((σ iMA 5) + 1)))).toNatClampNeg) 6) = 0 then 0 else (if ((up σ iMA 5 ((σ iMA 5) + 1)) (iP ((f_TT_partitionNow (up σ iMA 5 ((σ iMA 5) + 1)))).toNatClampNeg) 7) = 0 then 1 else 0)) : Int32), (up (f_TT_endsWindow (up σ iMA 5 ((σ iMA 5) + 1))).2 (iP ((f_TT_partitionNow (f_TT_endsWindow (up σ iMA 5 ((σ iMA 5) + 1))).2)).toNatClampNeg) 7 0))) else (if (f_TT_endsWindow (f_MA_step ((f_TT_partitionNow (up σ iMA 5 ((σ iMA 5) + 1)))).toNatClampNeg (up σ iMA 5 ((σ iMA 5) + 1)))).1 = 0 then (((if ((up σ iMA 5 ((σ iMA 5) + 1)) (iP ((f_TT_partitionNow (up σ iMA 5 ((σ iMA 5) + 1)))).toNatClampNeg) 6) = 0 then 0 else (if ((up σ iMA 5 ((σ iMA 5) + 1)) (iP ((f_TT_partitionNow (up σ iMA 5 ((σ iMA 5) + 1)))).toNatClampNeg) 7) = 0 then 1 else 0)) : Int32), (f_TT_endsWindow (f_MA_step ((f_TT_partitionNow (up σ iMA 5 ((σ iMA 5) + 1)))).toNatClampNeg (up σ iMA 5 ((σ iMA 5) + 1)))).2) else (((if ((up σ iMA 5 ((σ iMA 5) + 1)) (iP ((f_TT_partitionNow (up σ iMA 5 ((σ iMA 5) + 1)))).toNatClampNeg) 6) = 0 then 0 else (if ((up σ iMA 5 ((σ iMA 5) + 1)) (iP ((f_TT_partitionNow (up σ iMA 5 ((σ iMA 5) + 1)))).toNatClampNeg) 7) = 0 then 1 else 0)) : Int32), (up (f_TT_endsWindow (f_MA_step ((f_TT_partitionNow (up σ iMA 5 ((σ iMA 5) + 1)))).toNatClampNeg (up σ iMA 5 ((σ iMA 5) + 1)))).2 (iP ((f_TT_partitionNow (f_TT_endsWindow (f_MA_step ((f_TT_partitionNow (up σ iMA 5 ((σ iMA 5) + 1)))).toNatClampNeg (up σ iMA 5 ((σ iMA 5) + 1)))).2)).toNatClampNeg) 7 0))))
theorem z_ite2 {c : Prop} [Decidable c] {α : Type} {a b : Int32 × α} (ha : a.1 = 0 ∨ a.1 = 1) (hb : b.1 = 0 ∨ b.1 = 1) : (if c then a else b).1 = 0 ∨ (if c then a else b).1 = 1 := by
  split
  · exact ha
  · exact hb
theorem z_tk {c d : Prop} [Decidable c] [Decidable d] : ((if c then 0 else (if d then 1 else 0)) : Int32) = 0 ∨ ((if c then 0 else (if d then 1 else 0)) : Int32) = 1 := z_ite (Or.inl rfl) (z_ite (Or.inr rfl) (Or.inl rfl))
theorem z_SM_tick (σ : St) : (f_SM_tick σ).1 = 0 ∨ (f_SM_tick σ).1 = 1 := by
  unfold f_SM_tick
  exact z_ite2 (z_ite2 z_tk z_tk) (z_ite2 z_tk z_tk)
set_option maxHeartbeats 4000000 in
set_option maxRecDepth 100000 in
theorem c_SM_tick  (σ : St) (hI : Ic σ) : CI l D (tyL cA) rh (rcW rh cA) NW yX7_tick cX7_tick 3 .boolean 5 [.ref (rh iSM)] σ (f_SM_tick σ).1 (f_SM_tick σ).2 := by
  refine CI.of rfl (Nat.le_of_ble_eq_true rfl) (zN (z_SM_tick ..)) ?_
  intro p9 e s m args below meth c A Q X hend
  refine v_lv (lv' := [(0, .ref (rh iSM))]) [0] rfl ?_
  refine v_aload_n X 0 dX7_tick_0 rfl rfl ?_
  refine v_getR (j := iMA) (i := iSM) (k := 0) X (lt_SM ) (sh_SM ) rfl in_SM (by decide) wf_SM_12 rfl (fun _ => rfl) dX7_tick_1 ?_
  refine v_dup X dX7_tick_4 rfl ?_
  refine v_getI (i := iMA) (k := 5) X (lt_MA ) (sh_MA ) rfl in_MA (by decide) wf_SM_147 rfl (fun _ => rfl) dX7_tick_5 ?_
  refine v_iconst (v := 1) X dX7_tick_8 (by decide) ?_
  refine v_iadd X dX7_tick_9 ?_
  refine v_put (i := iMA) (k := 5) (x := ((σ iMA 5) + 1)) (ty := .int) X (lt_MA ) (sh_MA ) rfl in_MA (by decide) tyX2 tyX2_ok nX2 wf_SM_147 rfl rfl rfl rfl rfl (fun _ => Nat.le_of_ble_eq_true rfl) (fun _ _ => rfl) dX7_tick_10 ?_
  generalize hg10 : (up σ iMA 5 ((σ iMA 5) + 1)) = g10
  have hI10 : Ic g10 := by rw [← hg10]; exact (Ic.upMA hI)
  refine v_aload_n X 0 dX7_tick_13 rfl rfl ?_
  refine v_getR (j := iMA) (i := iSM) (k := 0) X (lt_SM ) (sh_SM ) rfl in_SM (by decide) wf_SM_12 rfl (fun _ => rfl) dX7_tick_14 ?_
  refine v_getR (j := iAP) (i := iMA) (k := 2) X (lt_MA ) (sh_MA ) rfl in_MA (by decide) wf_SM_57 rfl (fun _ => rfl) dX7_tick_17 ?_
  refine v_aload_n X 0 dX7_tick_20 rfl rfl ?_
  refine v_getR (j := iTT) (i := iSM) (k := 1) X (lt_SM ) (sh_SM ) rfl in_SM (by decide) wf_SM_21 rfl (fun _ => rfl) dX7_tick_21 ?_
  refine v_callV_CI (rest := [.ref (rh iAP)]) X [] (c_TT_partitionNow g10 hI10) mf_TT_partitionNow wi_TT_partitionNow wl_TT_partitionNow (lt_TT ) (sh_TT ) rfl wm_SM_159 rfl ⟨by decide, by decide⟩ (Nat.le_of_ble_eq_true rfl) ⟨by decide, by decide⟩ dX7_tick_24 ?_
  have hv27 : vp_in (f_TT_partitionNow g10) 4 := (pn_in hI10)
  refine v_aald (i := iAP) (t0 := 1) (g := iP) X (lt_APT ) (sh_APT ) rfl hv27 dX7_tick_27 ?_
  refine v_astore_n (lv' := [(1, .ref (rh (iP ((f_TT_partitionNow g10)).toNatClampNeg))), (0, .ref (rh iSM))]) X dX7_tick_28 rfl (by decide) rfl ?_
  refine v_aload_n X 0 dX7_tick_29 rfl rfl ?_
  refine v_getI (i := (iP ((f_TT_partitionNow g10)).toNatClampNeg)) (k := 6) X (lt_PT (vin_lt hv27)) (sh_PT (vin_lt hv27)) rfl in_PT (by decide) wf_SM_162 rfl (fun _ => rfl) dX7_tick_30 ?_
  refine v_suff (pc2 := 48) (lv2 := [(1, .ref (rh (iP ((f_TT_partitionNow g10)).toNatClampNeg))), (0, .ref (rh iSM))]) (st2 := [.int ((if (g10 (iP ((f_TT_partitionNow g10)).toNatClampNeg) 6) = 0 then 0 else (if (g10 (iP ((f_TT_partitionNow g10)).toNatClampNeg) 7) = 0 then 1 else 0)) : Int32)]) (σ2 := g10) ?_ (fun J33 => ?_)
  rotate_left
  ·
    refine v_if_eq X 47 dX7_tick_33 (by decide) (fun h33 => ?_) (fun h33 => ?_)
    ·
      refine v_iconst (v := 0) X dX7_tick_47 (by decide) ?_
      have e9 : (((if (g10 (iP ((f_TT_partitionNow g10)).toNatClampNeg) 6) = 0 then 0 else (if (g10 (iP ((f_TT_partitionNow g10)).toNatClampNeg) 7) = 0 then 1 else 0)) : Int32) : Int32) = 0 := by simp only [if_pos h33]
      rw [e9] at J33
      exact J33
    ·
      refine v_aload_n X 0 dX7_tick_36 rfl rfl ?_
      refine v_getI (i := (iP ((f_TT_partitionNow g10)).toNatClampNeg)) (k := 7) X (lt_PT (vin_lt hv27)) (sh_PT (vin_lt hv27)) rfl in_PT (by decide) wf_SM_165 rfl (fun _ => rfl) dX7_tick_37 ?_
      refine v_if_ne X 47 dX7_tick_40 (by decide) (fun h40 => ?_) (fun h40 => ?_)
      ·
        refine v_iconst (v := 0) X dX7_tick_47 (by decide) ?_
        have e9 : (((if (g10 (iP ((f_TT_partitionNow g10)).toNatClampNeg) 6) = 0 then 0 else (if (g10 (iP ((f_TT_partitionNow g10)).toNatClampNeg) 7) = 0 then 1 else 0)) : Int32) : Int32) = 0 := by simp only [if_neg h33, if_neg h40]
        rw [e9] at J33
        exact J33
      ·
        refine v_iconst (v := 1) X dX7_tick_43 (by decide) ?_
        refine v_goto (tgt := 48) X dX7_tick_44 (by decide) ?_
        have e9 : (((if (g10 (iP ((f_TT_partitionNow g10)).toNatClampNeg) 6) = 0 then 0 else (if (g10 (iP ((f_TT_partitionNow g10)).toNatClampNeg) 7) = 0 then 1 else 0)) : Int32) : Int32) = 1 := by simp only [if_neg h33, if_pos h40]
        rw [e9] at J33
        exact J33
  refine v_istore_n (lv' := [(2, .int ((if (g10 (iP ((f_TT_partitionNow g10)).toNatClampNeg) 6) = 0 then 0 else (if (g10 (iP ((f_TT_partitionNow g10)).toNatClampNeg) 7) = 0 then 1 else 0)) : Int32)), (1, .ref (rh (iP ((f_TT_partitionNow g10)).toNatClampNeg))), (0, .ref (rh iSM))]) X dX7_tick_48 rfl (by decide) rfl ?_
  refine v_iload_n X 0 dX7_tick_49 rfl rfl ?_
  refine v_if_eq X 61 dX7_tick_50 (by decide) (fun h50 => ?_) (fun h50 => ?_)
  ·
    refine v_aload_n X 2 dX7_tick_61 rfl rfl ?_
    refine v_getR (j := iTT) (i := iSM) (k := 1) X (lt_SM ) (sh_SM ) rfl in_SM (by decide) wf_SM_21 rfl (fun _ => rfl) dX7_tick_62 ?_
    refine v_callV_CI (rest := []) X [] (c_TT_endsWindow g10 hI10) mf_TT_endsWindow wi_TT_endsWindow wl_TT_endsWindow (lt_TT ) (sh_TT ) rfl wm_SM_172 rfl ⟨by decide, by decide⟩ (Nat.le_of_ble_eq_true rfl) ⟨by decide, by decide⟩ dX7_tick_65 ?_
    generalize hg65 : (f_TT_endsWindow g10) = g65
    have hI65 : Ic g65.2 := by rw [← hg65]; exact (I_TT_endsWindow  hI10)
    refine v_if_eq X 90 dX7_tick_68 (by decide) (fun h68 => ?_) (fun h68 => ?_)
    ·
      refine v_iload_n X 0 dX7_tick_90 rfl rfl ?_
      have e9 : f_SM_tick σ = (((if (g10 (iP ((f_TT_partitionNow g10)).toNatClampNeg) 6) = 0 then 0 else (if (g10 (iP ((f_TT_partitionNow g10)).toNatClampNeg) 7) = 0 then 1 else 0)) : Int32), g65.2) := by subst hg10; subst hg65; simp only [f_SM_tick, if_pos h50, if_pos h68]
      exact v_endI hend dX7_tick_91 (by rw [e9]) (by rw [e9])
    ·
      refine v_aload_n X 2 dX7_tick_71 rfl rfl ?_
      refine v_getR (j := iMA) (i := iSM) (k := 0) X (lt_SM ) (sh_SM ) rfl in_SM (by decide) wf_SM_12 rfl (fun _ => rfl) dX7_tick_72 ?_
      refine v_getR (j := iAP) (i := iMA) (k := 2) X (lt_MA ) (sh_MA ) rfl in_MA (by decide) wf_SM_57 rfl (fun _ => rfl) dX7_tick_75 ?_
      refine v_aload_n X 2 dX7_tick_78 rfl rfl ?_
      refine v_getR (j := iTT) (i := iSM) (k := 1) X (lt_SM ) (sh_SM ) rfl in_SM (by decide) wf_SM_21 rfl (fun _ => rfl) dX7_tick_79 ?_
      refine v_callV_CI (rest := [.ref (rh iAP)]) X [] (c_TT_partitionNow g65.2 hI65) mf_TT_partitionNow wi_TT_partitionNow wl_TT_partitionNow (lt_TT ) (sh_TT ) rfl wm_SM_159 rfl ⟨by decide, by decide⟩ (Nat.le_of_ble_eq_true rfl) ⟨by decide, by decide⟩ dX7_tick_82 ?_
      have hv85 : vp_in (f_TT_partitionNow g65.2) 4 := (pn_in hI65)
      refine v_aald (i := iAP) (t0 := 1) (g := iP) X (lt_APT ) (sh_APT ) rfl hv85 dX7_tick_85 ?_
      refine v_iconst (v := 0) X dX7_tick_86 (by decide) ?_
      refine v_put (i := (iP ((f_TT_partitionNow g65.2)).toNatClampNeg)) (k := 7) (x := 0) (ty := .boolean) X (lt_PT (vin_lt hv85)) (sh_PT (vin_lt hv85)) rfl in_PT (by decide) tyX3 tyX3_ok nX3 wf_SM_165 rfl rfl rfl (zN (Or.inl rfl)) (zF (Or.inl rfl)) (fun _ => Nat.le_of_ble_eq_true rfl) (fun _ _ => rfl) dX7_tick_87 ?_
      generalize hg87 : (up g65.2 (iP ((f_TT_partitionNow g65.2)).toNatClampNeg) 7 0) = g87
      have hI87 : Ic g87 := by rw [← hg87]; exact (Ic.upPT hI65 (by decide))
      refine v_iload_n X 0 dX7_tick_90 rfl rfl ?_
      have e9 : f_SM_tick σ = (((if (g10 (iP ((f_TT_partitionNow g10)).toNatClampNeg) 6) = 0 then 0 else (if (g10 (iP ((f_TT_partitionNow g10)).toNatClampNeg) 7) = 0 then 1 else 0)) : Int32), g87) := by subst hg10; subst hg65; subst hg87; simp only [f_SM_tick, if_pos h50, if_neg h68]
      exact v_endI hend dX7_tick_91 (by rw [e9]) (by rw [e9])
  ·
    refine v_aload_n X 2 dX7_tick_53 rfl rfl ?_
    refine v_getR (j := iMA) (i := iSM) (k := 0) X (lt_SM ) (sh_SM ) rfl in_SM (by decide) wf_SM_12 rfl (fun _ => rfl) dX7_tick_54 ?_
    refine v_aload_n X 1 dX7_tick_57 rfl rfl ?_
    refine v_callV_CV (rest := []) X [.ref (rh (iP ((f_TT_partitionNow g10)).toNatClampNeg))] (c_MA_step (vin_lt hv27) g10 hI10) mf_MA_step wi_MA_step wl_MA_step (lt_MA ) (sh_MA ) rfl wm_SM_168 rfl ⟨by decide, by decide⟩ (Nat.le_of_ble_eq_true rfl) ⟨by decide, by decide⟩ dX7_tick_58 ?_
    generalize hg58 : (f_MA_step ((f_TT_partitionNow g10)).toNatClampNeg g10) = g58
    have hI58 : Ic g58 := by rw [← hg58]; exact (I_MA_step ((f_TT_partitionNow g10)).toNatClampNeg hI10)
    refine v_aload_n X 2 dX7_tick_61 rfl rfl ?_
    refine v_getR (j := iTT) (i := iSM) (k := 1) X (lt_SM ) (sh_SM ) rfl in_SM (by decide) wf_SM_21 rfl (fun _ => rfl) dX7_tick_62 ?_
    refine v_callV_CI (rest := []) X [] (c_TT_endsWindow g58 hI58) mf_TT_endsWindow wi_TT_endsWindow wl_TT_endsWindow (lt_TT ) (sh_TT ) rfl wm_SM_172 rfl ⟨by decide, by decide⟩ (Nat.le_of_ble_eq_true rfl) ⟨by decide, by decide⟩ dX7_tick_65 ?_
    generalize hg65 : (f_TT_endsWindow g58) = g65
    have hI65 : Ic g65.2 := by rw [← hg65]; exact (I_TT_endsWindow  hI58)
    refine v_if_eq X 90 dX7_tick_68 (by decide) (fun h68 => ?_) (fun h68 => ?_)
    ·
      refine v_iload_n X 0 dX7_tick_90 rfl rfl ?_
      have e9 : f_SM_tick σ = (((if (g10 (iP ((f_TT_partitionNow g10)).toNatClampNeg) 6) = 0 then 0 else (if (g10 (iP ((f_TT_partitionNow g10)).toNatClampNeg) 7) = 0 then 1 else 0)) : Int32), g65.2) := by subst hg10; subst hg58; subst hg65; simp only [f_SM_tick, if_neg h50, if_pos h68]
      exact v_endI hend dX7_tick_91 (by rw [e9]) (by rw [e9])
    ·
      refine v_aload_n X 2 dX7_tick_71 rfl rfl ?_
      refine v_getR (j := iMA) (i := iSM) (k := 0) X (lt_SM ) (sh_SM ) rfl in_SM (by decide) wf_SM_12 rfl (fun _ => rfl) dX7_tick_72 ?_
      refine v_getR (j := iAP) (i := iMA) (k := 2) X (lt_MA ) (sh_MA ) rfl in_MA (by decide) wf_SM_57 rfl (fun _ => rfl) dX7_tick_75 ?_
      refine v_aload_n X 2 dX7_tick_78 rfl rfl ?_
      refine v_getR (j := iTT) (i := iSM) (k := 1) X (lt_SM ) (sh_SM ) rfl in_SM (by decide) wf_SM_21 rfl (fun _ => rfl) dX7_tick_79 ?_
      refine v_callV_CI (rest := [.ref (rh iAP)]) X [] (c_TT_partitionNow g65.2 hI65) mf_TT_partitionNow wi_TT_partitionNow wl_TT_partitionNow (lt_TT ) (sh_TT ) rfl wm_SM_159 rfl ⟨by decide, by decide⟩ (Nat.le_of_ble_eq_true rfl) ⟨by decide, by decide⟩ dX7_tick_82 ?_
      have hv85 : vp_in (f_TT_partitionNow g65.2) 4 := (pn_in hI65)
      refine v_aald (i := iAP) (t0 := 1) (g := iP) X (lt_APT ) (sh_APT ) rfl hv85 dX7_tick_85 ?_
      refine v_iconst (v := 0) X dX7_tick_86 (by decide) ?_
      refine v_put (i := (iP ((f_TT_partitionNow g65.2)).toNatClampNeg)) (k := 7) (x := 0) (ty := .boolean) X (lt_PT (vin_lt hv85)) (sh_PT (vin_lt hv85)) rfl in_PT (by decide) tyX3 tyX3_ok nX3 wf_SM_165 rfl rfl rfl (zN (Or.inl rfl)) (zF (Or.inl rfl)) (fun _ => Nat.le_of_ble_eq_true rfl) (fun _ _ => rfl) dX7_tick_87 ?_
      generalize hg87 : (up g65.2 (iP ((f_TT_partitionNow g65.2)).toNatClampNeg) 7 0) = g87
      have hI87 : Ic g87 := by rw [← hg87]; exact (Ic.upPT hI65 (by decide))
      refine v_iload_n X 0 dX7_tick_90 rfl rfl ?_
      have e9 : f_SM_tick σ = (((if (g10 (iP ((f_TT_partitionNow g10)).toNatClampNeg) 6) = 0 then 0 else (if (g10 (iP ((f_TT_partitionNow g10)).toNatClampNeg) 7) = 0 then 1 else 0)) : Int32), g87) := by subst hg10; subst hg58; subst hg65; subst hg87; simp only [f_SM_tick, if_neg h50, if_neg h68]
      exact v_endI hend dX7_tick_91 (by rw [e9]) (by rw [e9])
theorem I_SM_tick  {σ : St} (hI : Ic σ) : Ic (f_SM_tick σ).2 := by
  unfold f_SM_tick
  exact (ic_ite2 (fun _ => (ic_ite2 (fun _ => (I_TT_endsWindow  (Ic.upMA hI))) (fun _ => (Ic.upPT (I_TT_endsWindow  (Ic.upMA hI)) (by decide))))) (fun _ => (ic_ite2 (fun _ => (I_TT_endsWindow  (I_MA_step ((f_TT_partitionNow (up σ iMA 5 ((σ iMA 5) + 1)))).toNatClampNeg (Ic.upMA hI)))) (fun _ => (Ic.upPT (I_TT_endsWindow  (I_MA_step ((f_TT_partitionNow (up σ iMA 5 ((σ iMA 5) + 1)))).toNatClampNeg (Ic.upMA hI))) (by decide))))))
end CLS
end
section
theorem tw_of {L : List Cond} (h : L.all (fun w => (decide (w ∈ lw_tbl) && (goodWord w || isNest w)) || isHW w) = true) : ∀ w ∈ L, w ∈ gw ∨ w ∈ nw ∨ isHW w = true := by
  intro w hw
  have h1 := List.all_eq_true.mp h w hw
  simp only [Bool.or_eq_true, Bool.and_eq_true, decide_eq_true_eq] at h1
  rcases h1 with ⟨h2, h3 | h3⟩ | h3
  · exact Or.inl (gw_of h2 h3)
  · exact Or.inr (Or.inl (nw_of h2 h3))
  · exact Or.inr (Or.inr h3)
theorem tw_SM_1 : TW RX7 176 178 (exN 1) ["java/lang/RuntimeException", "java/lang/Exception"] := ⟨gw_of (by decide +kernel) rfl, gw_of (by decide +kernel) rfl, by decide +kernel, by decide +kernel, tw_of (by decide +kernel)⟩
theorem tw_SM_2 : TW RX7 179 181 (exN 2) ["java/lang/RuntimeException", "java/lang/Exception"] := ⟨gw_of (by decide +kernel) rfl, gw_of (by decide +kernel) rfl, by decide +kernel, by decide +kernel, tw_of (by decide +kernel)⟩
section CLS
variable {l : Launch} {D : va_G} {rh : Nat → Nat} {cA : Nat → ClassId}
def f_SM_refuseBadUnless (xa : Int32) : Int32 :=
  (if xa = 0 then 1 else 0)
set_option maxHeartbeats 4000000 in
set_option maxRecDepth 100000 in
theorem c_SM_refuseBadUnless (hlt : l.stackTraces = false) (xa : Int32) (σ : St) : CFV l D (tyL cA) rh (rcW rh cA) NW yX7_refuseBadUnless cX7_refuseBadUnless 1 6 1 6 [.int xa] σ (f_SM_refuseBadUnless xa, 0, σ) := by
  refine CFV.of rfl (Nat.le_of_ble_eq_true rfl) hlt ?_
  intro p9 e s m args below meth c A Q X hend hthr hnew
  refine v_lv (lv' := [(0, .int xa)]) [0] rfl ?_
  refine v_iload_n X 0 dX7_refuseBadUnless_0 rfl rfl ?_
  refine v_if_ne X 12 dX7_refuseBadUnless_1 (by decide) (fun h1 => ?_) (fun h1 => ?_)
  ·
    have e9 : (f_SM_refuseBadUnless xa, (0 : Int32), σ) = (0, 0, σ) := by simp only [f_SM_refuseBadUnless, if_neg h1]
    exact hend _ _ _ _ _ e9 (by decide) (by decide) dX7_refuseBadUnless_12
  ·
    have e9 : (f_SM_refuseBadUnless xa, (0 : Int32), σ) = (1, 0, σ) := by simp only [f_SM_refuseBadUnless, if_pos h1]
    exact hnew _ _ _ _ _ 1 _ e9 (by decide) tw_SM_1 dX7_refuseBadUnless_4 dX7_refuseBadUnless_7 dX7_refuseBadUnless_8 dX7_refuseBadUnless_11 (by decide) (by decide) (by decide) (Nat.le_of_ble_eq_true rfl)
def f_SM_refuseNowUnless (xa : Int32) : Int32 :=
  (if xa = 0 then 2 else 0)
set_option maxHeartbeats 4000000 in
set_option maxRecDepth 100000 in
theorem c_SM_refuseNowUnless (hlt : l.stackTraces = false) (xa : Int32) (σ : St) : CFV l D (tyL cA) rh (rcW rh cA) NW yX7_refuseNowUnless cX7_refuseNowUnless 1 6 1 6 [.int xa] σ (f_SM_refuseNowUnless xa, 0, σ) := by
  refine CFV.of rfl (Nat.le_of_ble_eq_true rfl) hlt ?_
  intro p9 e s m args below meth c A Q X hend hthr hnew
  refine v_lv (lv' := [(0, .int xa)]) [0] rfl ?_
  refine v_iload_n X 0 dX7_refuseNowUnless_0 rfl rfl ?_
  refine v_if_ne X 12 dX7_refuseNowUnless_1 (by decide) (fun h1 => ?_) (fun h1 => ?_)
  ·
    have e9 : (f_SM_refuseNowUnless xa, (0 : Int32), σ) = (0, 0, σ) := by simp only [f_SM_refuseNowUnless, if_neg h1]
    exact hend _ _ _ _ _ e9 (by decide) (by decide) dX7_refuseNowUnless_12
  ·
    have e9 : (f_SM_refuseNowUnless xa, (0 : Int32), σ) = (2, 0, σ) := by simp only [f_SM_refuseNowUnless, if_pos h1]
    exact hnew _ _ _ _ _ 2 _ e9 (by decide) tw_SM_2 dX7_refuseNowUnless_4 dX7_refuseNowUnless_7 dX7_refuseNowUnless_8 dX7_refuseNowUnless_11 (by decide) (by decide) (by decide) (Nat.le_of_ble_eq_true rfl)
end CLS
theorem rb_nz {b : Int32} (h : f_SM_refuseBadUnless b = 0) : ¬ b = 0 := by
  intro hb
  unfold f_SM_refuseBadUnless at h
  simp [hb] at h
theorem rn_nz {b : Int32} (h : f_SM_refuseNowUnless b = 0) : ¬ b = 0 := by
  intro hb
  unfold f_SM_refuseNowUnless at h
  simp [hb] at h
theorem ifnz {c : Prop} [Decidable c] {x : Int32} (h : ¬ (if c then (0 : Int32) else x) = 0) : ¬ c := fun hc => h (if_pos hc)
theorem run_b {n : Int32} (h : f_SM_refuseBadUnless (f_SM_within n 1 400) = 0) : 1 ≤ n.toInt ∧ n.toInt ≤ 400 := by
  have h1 := rb_nz h
  unfold f_SM_within at h1
  by_cases h2 : n < 1
  · simp [h2] at h1
  · by_cases h3 : (400 : Int32) < n
    · simp [h2, h3] at h1
    · rw [ilt] at h2 h3
      have z1 : (1 : Int32).toInt = 1 := by decide
      have z4 : (400 : Int32).toInt = 400 := by decide
      omega
theorem mf_CH_hourOrNone : MF yX0_hourOrNone cX0_hourOrNone 1 (some .int) 0 := ⟨gw_of (by decide +kernel) rfl, gw_of (by decide +kernel) rfl, by decide +kernel, by decide +kernel, by decide +kernel⟩
theorem mf_MA_overlapsAnother : MF yX2_overlapsAnother cX2_overlapsAnother 5 (some .boolean) 3 := ⟨gw_of (by decide +kernel) rfl, gw_of (by decide +kernel) rfl, by decide +kernel, by decide +kernel, by decide +kernel⟩
theorem mf_MA_start : MF yX2_start cX2_start 3 (some .int) 0 := ⟨gw_of (by decide +kernel) rfl, gw_of (by decide +kernel) rfl, by decide +kernel, by decide +kernel, by decide +kernel⟩
theorem mf_PT_sinceBooted : MF yX3_sinceBooted cX3_sinceBooted 2 (some .int) 1 := ⟨gw_of (by decide +kernel) rfl, gw_of (by decide +kernel) rfl, by decide +kernel, by decide +kernel, by decide +kernel⟩
theorem mf_SM_isPartition : MF yX7_isPartition cX7_isPartition 1 (some .boolean) 1 := ⟨gw_of (by decide +kernel) rfl, gw_of (by decide +kernel) rfl, by decide +kernel, by decide +kernel, by decide +kernel⟩
theorem mf_SM_isWord : MF yX7_isWord cX7_isWord 1 (some .boolean) 1 := ⟨gw_of (by decide +kernel) rfl, gw_of (by decide +kernel) rfl, by decide +kernel, by decide +kernel, by decide +kernel⟩
theorem mf_SM_refuseBadUnless : MF yX7_refuseBadUnless cX7_refuseBadUnless 1 none 1 := ⟨gw_of (by decide +kernel) rfl, gw_of (by decide +kernel) rfl, by decide +kernel, by decide +kernel, by decide +kernel⟩
theorem mf_SM_refuseNowUnless : MF yX7_refuseNowUnless cX7_refuseNowUnless 1 none 1 := ⟨gw_of (by decide +kernel) rfl, gw_of (by decide +kernel) rfl, by decide +kernel, by decide +kernel, by decide +kernel⟩
theorem mf_SM_tick : MF yX7_tick cX7_tick 3 (some .boolean) 0 := ⟨gw_of (by decide +kernel) rfl, gw_of (by decide +kernel) rfl, by decide +kernel, by decide +kernel, by decide +kernel⟩
theorem mf_TT_append : MF yX6_append cX6_append 3 none 2 := ⟨gw_of (by decide +kernel) rfl, gw_of (by decide +kernel) rfl, by decide +kernel, by decide +kernel, by decide +kernel⟩
theorem mf_TT_start : MF yX6_start cX6_start 1 none 0 := ⟨gw_of (by decide +kernel) rfl, gw_of (by decide +kernel) rfl, by decide +kernel, by decide +kernel, by decide +kernel⟩
theorem tw_SM_3 : TW RX7 54 56 (exN 3) ["java/lang/RuntimeException", "java/lang/Exception"] := ⟨gw_of (by decide +kernel) rfl, gw_of (by decide +kernel) rfl, by decide +kernel, by decide +kernel, tw_of (by decide +kernel)⟩
theorem wf_SM_112 : Cond.fieldLink RX7 112 RX2 "key" "I" ∈ gw := gw_of (by decide +kernel) rfl
theorem wf_SM_119 : Cond.fieldLink RX7 119 RX3 "pc" "I" ∈ gw := gw_of (by decide +kernel) rfl
theorem wf_SM_135 : Cond.fieldLink RX7 135 RX2 "slots" "[LSeparationMonitor$Slot;" ∈ gw := gw_of (by decide +kernel) rfl
theorem wf_SM_139 : Cond.fieldLink RX7 139 RX5 "held" "I" ∈ gw := gw_of (by decide +kernel) rfl
theorem wf_SM_144 : Cond.fieldLink RX7 144 RX5 "mark" "I" ∈ gw := gw_of (by decide +kernel) rfl
theorem wf_SM_150 : Cond.fieldLink RX7 150 RX6 "current" "I" ∈ gw := gw_of (by decide +kernel) rfl
theorem wf_SM_153 : Cond.fieldLink RX7 153 RX6 "left" "I" ∈ gw := gw_of (by decide +kernel) rfl
theorem wf_SM_156 : Cond.fieldLink RX7 156 RX6 "begun" "I" ∈ gw := gw_of (by decide +kernel) rfl
theorem wf_SM_25 : Cond.fieldLink RX7 25 RX7 "booted" "Z" ∈ gw := gw_of (by decide +kernel) rfl
theorem wf_SM_29 : Cond.fieldLink RX7 29 RX7 "boots" "I" ∈ gw := gw_of (by decide +kernel) rfl
theorem wf_SM_33 : Cond.fieldLink RX7 33 RX7 "log" "I" ∈ gw := gw_of (by decide +kernel) rfl
theorem wf_SM_61 : Cond.fieldLink RX7 61 RX3 "first" "I" ∈ gw := gw_of (by decide +kernel) rfl
theorem wf_SM_66 : Cond.fieldLink RX7 66 RX3 "size" "I" ∈ gw := gw_of (by decide +kernel) rfl
theorem wf_SM_72 : Cond.fieldLink RX7 72 RX2 "words" "[I" ∈ gw := gw_of (by decide +kernel) rfl
theorem wf_SM_76 : Cond.fieldLink RX7 76 RX3 "how" "I" ∈ gw := gw_of (by decide +kernel) rfl
theorem wf_SM_79 : Cond.fieldLink RX7 79 RX6 "size" "I" ∈ gw := gw_of (by decide +kernel) rfl
theorem wf_SM_87 : Cond.fieldLink RX7 87 RX2 "channels" "[LSeparationMonitor$Channel;" ∈ gw := gw_of (by decide +kernel) rfl
theorem wf_SM_91 : Cond.fieldLink RX7 91 RX0 "source" "I" ∈ gw := gw_of (by decide +kernel) rfl
theorem wf_SM_96 : Cond.fieldLink RX7 96 RX0 "readers" "I" ∈ gw := gw_of (by decide +kernel) rfl
theorem wf_SM_99 : Cond.fieldLink RX7 99 RX0 "period" "I" ∈ gw := gw_of (by decide +kernel) rfl
theorem wi_CH_hourOrNone : Cond.instanceMethod yX0_hourOrNone ∈ gw := gw_of (by decide +kernel) rfl
theorem wi_MA_overlapsAnother : Cond.instanceMethod yX2_overlapsAnother ∈ gw := gw_of (by decide +kernel) rfl
theorem wi_MA_start : Cond.instanceMethod yX2_start ∈ gw := gw_of (by decide +kernel) rfl
theorem wi_PT_sinceBooted : Cond.instanceMethod yX3_sinceBooted ∈ gw := gw_of (by decide +kernel) rfl
theorem wi_SM_tick : Cond.instanceMethod yX7_tick ∈ gw := gw_of (by decide +kernel) rfl
theorem wi_TT_append : Cond.instanceMethod yX6_append ∈ gw := gw_of (by decide +kernel) rfl
theorem wi_TT_start : Cond.instanceMethod yX6_start ∈ gw := gw_of (by decide +kernel) rfl
theorem wl_CH_hourOrNone : Cond.selects yX0_hourOrNone.cls yX0_hourOrNone yX0_hourOrNone ∈ gw := gw_of (by decide +kernel) rfl
theorem wl_MA_overlapsAnother : Cond.selects yX2_overlapsAnother.cls yX2_overlapsAnother yX2_overlapsAnother ∈ gw := gw_of (by decide +kernel) rfl
theorem wl_MA_start : Cond.selects yX2_start.cls yX2_start yX2_start ∈ gw := gw_of (by decide +kernel) rfl
theorem wl_PT_sinceBooted : Cond.selects yX3_sinceBooted.cls yX3_sinceBooted yX3_sinceBooted ∈ gw := gw_of (by decide +kernel) rfl
theorem wl_SM_tick : Cond.selects yX7_tick.cls yX7_tick yX7_tick ∈ gw := gw_of (by decide +kernel) rfl
theorem wl_TT_append : Cond.selects yX6_append.cls yX6_append yX6_append ∈ gw := gw_of (by decide +kernel) rfl
theorem wl_TT_start : Cond.selects yX6_start.cls yX6_start yX6_start ∈ gw := gw_of (by decide +kernel) rfl
theorem wm_SM_102 : Cond.methodLink RX7 102 yX2_start ∈ gw := gw_of (by decide +kernel) rfl
theorem wm_SM_106 : Cond.methodLink RX7 106 yX6_start ∈ gw := gw_of (by decide +kernel) rfl
theorem wm_SM_108 : Cond.methodLink RX7 108 yX7_tick ∈ gw := gw_of (by decide +kernel) rfl
theorem wm_SM_115 : Cond.methodLink RX7 115 yX7_mix ∈ gw := gw_of (by decide +kernel) rfl
theorem wm_SM_122 : Cond.methodLink RX7 122 yX3_get ∈ gw := gw_of (by decide +kernel) rfl
theorem wm_SM_126 : Cond.methodLink RX7 126 yX3_sinceBooted ∈ gw := gw_of (by decide +kernel) rfl
theorem wm_SM_129 : Cond.methodLink RX7 129 yX0_valueOrZero ∈ gw := gw_of (by decide +kernel) rfl
theorem wm_SM_132 : Cond.methodLink RX7 132 yX0_hourOrNone ∈ gw := gw_of (by decide +kernel) rfl
theorem wm_SM_36 : Cond.methodLink RX7 36 yX7_isPartition ∈ gw := gw_of (by decide +kernel) rfl
theorem wm_SM_44 : Cond.methodLink RX7 44 yX7_refuseBadUnless ∈ gw := gw_of (by decide +kernel) rfl
theorem wm_SM_48 : Cond.methodLink RX7 48 yX7_refuseNowUnless ∈ gw := gw_of (by decide +kernel) rfl
theorem wm_SM_51 : Cond.methodLink RX7 51 yX2_overlapsAnother ∈ gw := gw_of (by decide +kernel) rfl
theorem wm_SM_69 : Cond.methodLink RX7 69 yX7_isWord ∈ gw := gw_of (by decide +kernel) rfl
theorem wm_SM_80 : Cond.methodLink RX7 80 yX6_append ∈ gw := gw_of (by decide +kernel) rfl
theorem wm_SM_84 : Cond.methodLink RX7 84 yX7_isChannel ∈ gw := gw_of (by decide +kernel) rfl
theorem ws_SM_isPartition : Cond.static yX7_isPartition ∈ gw := gw_of (by decide +kernel) rfl
theorem ws_SM_isWord : Cond.static yX7_isWord ∈ gw := gw_of (by decide +kernel) rfl
theorem ws_SM_refuseBadUnless : Cond.static yX7_refuseBadUnless ∈ gw := gw_of (by decide +kernel) rfl
theorem ws_SM_refuseNowUnless : Cond.static yX7_refuseNowUnless ∈ gw := gw_of (by decide +kernel) rfl
section CLS
variable {l : Launch} {D : va_G} {rh : Nat → Nat} {cA : Nat → ClassId}
def f_SM_region (xa : Int32) (xb : Int32) (xc : Int32) (σ : St) : Int32 × Int32 × St :=
  (if f_SM_refuseBadUnless ((if (f_SM_isPartition xa) = 0 then 0 else (if (f_SM_within xb 0 95) = 0 then 0 else (if (f_SM_within xc 0 32) = 0 then 0 else (if 96 < (xb + xc) then 0 else 1)))) : Int32) = 0 then (if f_SM_refuseNowUnless ((if (σ iSM 2) = 0 then 1 else 0) : Int32) = 0 then (if (f_MA_overlapsAnother xa xb xc σ) = 0 then (0, 0, (up (up σ (iP (xa).toNatClampNeg) 1 xb) (iP (xa).toNatClampNeg) 2 xc)) else (3, 0, σ)) else (f_SM_refuseNowUnless ((if (σ iSM 2) = 0 then 1 else 0) : Int32), 0, σ)) else (f_SM_refuseBadUnless ((if (f_SM_isPartition xa) = 0 then 0 else (if (f_SM_within xb 0 95) = 0 then 0 else (if (f_SM_within xc 0 32) = 0 then 0 else (if 96 < (xb + xc) then 0 else 1)))) : Int32), 0, σ))
set_option maxHeartbeats 4000000 in
set_option maxRecDepth 100000 in
theorem c_SM_region (hlt : l.stackTraces = false) (xa : Int32) (xb : Int32) (xc : Int32) (σ : St) (hI : Ic σ) : CFV l D (tyL cA) rh (rcW rh cA) NW yX7_region cX7_region 5 7 3 18 [.ref (rh iSM), .int xa, .int xb, .int xc] σ (f_SM_region xa xb xc σ) := by
  refine CFV.of rfl (Nat.le_of_ble_eq_true rfl) hlt ?_
  intro p9 e s m args below meth c A Q X hend hthr hnew
  refine v_lv (lv' := [(0, .ref (rh iSM)), (1, .int xa), (2, .int xb), (3, .int xc)]) [0, 1, 2, 3] rfl ?_
  refine v_iload_n X 1 dX7_region_0 rfl rfl ?_
  refine v_callS_CI (rest := []) X [.int xa] (c_SM_isPartition xa σ ) mf_SM_isPartition ws_SM_isPartition wm_SM_36 rfl ⟨by decide, by decide⟩ (Nat.le_of_ble_eq_true rfl) ⟨by decide, by decide⟩ dX7_region_1 ?_
  refine v_suff (pc2 := 40) (lv2 := [(0, .ref (rh iSM)), (1, .int xa), (2, .int xb), (3, .int xc)]) (st2 := [.int ((if (f_SM_isPartition xa) = 0 then 0 else (if (f_SM_within xb 0 95) = 0 then 0 else (if (f_SM_within xc 0 32) = 0 then 0 else (if 96 < (xb + xc) then 0 else 1)))) : Int32)]) (σ2 := σ) ?_ (fun J4 => ?_)
  rotate_left
  ·
    refine v_if_eq X 39 dX7_region_4 (by decide) (fun h4 => ?_) (fun h4 => ?_)
    ·
      refine v_iconst (v := 0) X dX7_region_39 (by decide) ?_
      have e9 : (((if (f_SM_isPartition xa) = 0 then 0 else (if (f_SM_within xb 0 95) = 0 then 0 else (if (f_SM_within xc 0 32) = 0 then 0 else (if 96 < (xb + xc) then 0 else 1)))) : Int32) : Int32) = 0 := by simp only [if_pos h4]
      rw [e9] at J4
      exact J4
    ·
      refine v_iload_n X 2 dX7_region_7 rfl rfl ?_
      refine v_iconst (v := 0) X dX7_region_8 (by decide) ?_
      refine v_bipush (v := 95) X dX7_region_9 (by decide) ?_
      refine v_callS_CI (rest := []) X [.int xb, .int 0, .int 95] (c_SM_within xb 0 95 σ ) mf_SM_within ws_SM_within wm_SM_40 rfl ⟨by decide, by decide⟩ (Nat.le_of_ble_eq_true rfl) ⟨by decide, by decide⟩ dX7_region_11 ?_
      refine v_if_eq X 39 dX7_region_14 (by decide) (fun h14 => ?_) (fun h14 => ?_)
      ·
        refine v_iconst (v := 0) X dX7_region_39 (by decide) ?_
        have e9 : (((if (f_SM_isPartition xa) = 0 then 0 else (if (f_SM_within xb 0 95) = 0 then 0 else (if (f_SM_within xc 0 32) = 0 then 0 else (if 96 < (xb + xc) then 0 else 1)))) : Int32) : Int32) = 0 := by simp only [if_neg h4, if_pos h14]
        rw [e9] at J4
        exact J4
      ·
        refine v_iload_n X 3 dX7_region_17 rfl rfl ?_
        refine v_iconst (v := 0) X dX7_region_18 (by decide) ?_
        refine v_bipush (v := 32) X dX7_region_19 (by decide) ?_
        refine v_callS_CI (rest := []) X [.int xc, .int 0, .int 32] (c_SM_within xc 0 32 σ ) mf_SM_within ws_SM_within wm_SM_40 rfl ⟨by decide, by decide⟩ (Nat.le_of_ble_eq_true rfl) ⟨by decide, by decide⟩ dX7_region_21 ?_
        refine v_if_eq X 39 dX7_region_24 (by decide) (fun h24 => ?_) (fun h24 => ?_)
        ·
          refine v_iconst (v := 0) X dX7_region_39 (by decide) ?_
          have e9 : (((if (f_SM_isPartition xa) = 0 then 0 else (if (f_SM_within xb 0 95) = 0 then 0 else (if (f_SM_within xc 0 32) = 0 then 0 else (if 96 < (xb + xc) then 0 else 1)))) : Int32) : Int32) = 0 := by simp only [if_neg h4, if_neg h14, if_pos h24]
          rw [e9] at J4
          exact J4
        ·
          refine v_iload_n X 2 dX7_region_27 rfl rfl ?_
          refine v_iload_n X 3 dX7_region_28 rfl rfl ?_
          refine v_iadd X dX7_region_29 ?_
          refine v_bipush (v := 96) X dX7_region_30 (by decide) ?_
          refine v_icmp_gt X 39 dX7_region_32 (by decide) (fun h32 => ?_) (fun h32 => ?_)
          ·
            refine v_iconst (v := 0) X dX7_region_39 (by decide) ?_
            have e9 : (((if (f_SM_isPartition xa) = 0 then 0 else (if (f_SM_within xb 0 95) = 0 then 0 else (if (f_SM_within xc 0 32) = 0 then 0 else (if 96 < (xb + xc) then 0 else 1)))) : Int32) : Int32) = 0 := by simp only [if_neg h4, if_neg h14, if_neg h24, if_pos h32]
            rw [e9] at J4
            exact J4
          ·
            refine v_iconst (v := 1) X dX7_region_35 (by decide) ?_
            refine v_goto (tgt := 40) X dX7_region_36 (by decide) ?_
            have e9 : (((if (f_SM_isPartition xa) = 0 then 0 else (if (f_SM_within xb 0 95) = 0 then 0 else (if (f_SM_within xc 0 32) = 0 then 0 else (if 96 < (xb + xc) then 0 else 1)))) : Int32) : Int32) = 1 := by simp only [if_neg h4, if_neg h14, if_neg h24, if_neg h32]
            rw [e9] at J4
            exact J4
  refine v_callS_CFV (rest := []) X [.int ((if (f_SM_isPartition xa) = 0 then 0 else (if (f_SM_within xb 0 95) = 0 then 0 else (if (f_SM_within xc 0 32) = 0 then 0 else (if 96 < (xb + xc) then 0 else 1)))) : Int32)] (c_SM_refuseBadUnless hlt ((if (f_SM_isPartition xa) = 0 then 0 else (if (f_SM_within xb 0 95) = 0 then 0 else (if (f_SM_within xc 0 32) = 0 then 0 else (if 96 < (xb + xc) then 0 else 1)))) : Int32) σ ) mf_SM_refuseBadUnless ws_SM_refuseBadUnless wm_SM_44 rfl ⟨by decide, by decide⟩ (Nat.le_of_ble_eq_true rfl) ⟨by decide, by decide⟩ dX7_region_40 (fun h40 => ?_) (fun h40 => ?_)
  ·
    have e9 : f_SM_region xa xb xc σ = (f_SM_refuseBadUnless ((if (f_SM_isPartition xa) = 0 then 0 else (if (f_SM_within xb 0 95) = 0 then 0 else (if (f_SM_within xc 0 32) = 0 then 0 else (if 96 < (xb + xc) then 0 else 1)))) : Int32), 0, σ) := by simp only [f_SM_region, if_neg h40]
    exact hthr _ _ _ _ _ _ _ e9 h40 (by decide) (by decide)
  refine v_aload_n X 0 dX7_region_43 rfl rfl ?_
  refine v_getI (i := iSM) (k := 2) X (lt_SM ) (sh_SM ) rfl in_SM (by decide) wf_SM_25 rfl (fun _ => rfl) dX7_region_44 ?_
  refine v_suff (pc2 := 55) (lv2 := [(0, .ref (rh iSM)), (1, .int xa), (2, .int xb), (3, .int xc)]) (st2 := [.int ((if (σ iSM 2) = 0 then 1 else 0) : Int32)]) (σ2 := σ) ?_ (fun J47 => ?_)
  rotate_left
  ·
    refine v_if_ne X 54 dX7_region_47 (by decide) (fun h47 => ?_) (fun h47 => ?_)
    ·
      refine v_iconst (v := 0) X dX7_region_54 (by decide) ?_
      have e9 : (((if (σ iSM 2) = 0 then 1 else 0) : Int32) : Int32) = 0 := by simp only [if_neg h47]
      rw [e9] at J47
      exact J47
    ·
      refine v_iconst (v := 1) X dX7_region_50 (by decide) ?_
      refine v_goto (tgt := 55) X dX7_region_51 (by decide) ?_
      have e9 : (((if (σ iSM 2) = 0 then 1 else 0) : Int32) : Int32) = 1 := by simp only [if_pos h47]
      rw [e9] at J47
      exact J47
  refine v_callS_CFV (rest := []) X [.int ((if (σ iSM 2) = 0 then 1 else 0) : Int32)] (c_SM_refuseNowUnless hlt ((if (σ iSM 2) = 0 then 1 else 0) : Int32) σ ) mf_SM_refuseNowUnless ws_SM_refuseNowUnless wm_SM_48 rfl ⟨by decide, by decide⟩ (Nat.le_of_ble_eq_true rfl) ⟨by decide, by decide⟩ dX7_region_55 (fun h55 => ?_) (fun h55 => ?_)
  ·
    have e9 : f_SM_region xa xb xc σ = (f_SM_refuseNowUnless ((if (σ iSM 2) = 0 then 1 else 0) : Int32), 0, σ) := by simp only [f_SM_region, if_pos h40, if_neg h55]
    exact hthr _ _ _ _ _ _ _ e9 h55 (by decide) (by decide)
  refine v_aload_n X 0 dX7_region_58 rfl rfl ?_
  refine v_getR (j := iMA) (i := iSM) (k := 0) X (lt_SM ) (sh_SM ) rfl in_SM (by decide) wf_SM_12 rfl (fun _ => rfl) dX7_region_59 ?_
  refine v_iload_n X 1 dX7_region_62 rfl rfl ?_
  refine v_iload_n X 2 dX7_region_63 rfl rfl ?_
  refine v_iload_n X 3 dX7_region_64 rfl rfl ?_
  refine v_callV_CI (rest := []) X [.int xa, .int xb, .int xc] (c_MA_overlapsAnother xa xb xc σ ) mf_MA_overlapsAnother wi_MA_overlapsAnother wl_MA_overlapsAnother (lt_MA ) (sh_MA ) rfl wm_SM_51 rfl ⟨by decide, by decide⟩ (Nat.le_of_ble_eq_true rfl) ⟨by decide, by decide⟩ dX7_region_65 ?_
  refine v_if_eq X 79 dX7_region_68 (by decide) (fun h68 => ?_) (fun h68 => ?_)
  ·
    refine v_aload_n X 0 dX7_region_79 rfl rfl ?_
    refine v_getR (j := iMA) (i := iSM) (k := 0) X (lt_SM ) (sh_SM ) rfl in_SM (by decide) wf_SM_12 rfl (fun _ => rfl) dX7_region_80 ?_
    refine v_getR (j := iAP) (i := iMA) (k := 2) X (lt_MA ) (sh_MA ) rfl in_MA (by decide) wf_SM_57 rfl (fun _ => rfl) dX7_region_83 ?_
    refine v_iload_n X 1 dX7_region_86 rfl rfl ?_
    have hv87 : vp_in xa 4 := (pt_in (ifnz (rb_nz h40)))
    refine v_aald (i := iAP) (t0 := 1) (g := iP) X (lt_APT ) (sh_APT ) rfl hv87 dX7_region_87 ?_
    refine v_astore (lv' := [(4, .ref (rh (iP (xa).toNatClampNeg))), (0, .ref (rh iSM)), (1, .int xa), (2, .int xb), (3, .int xc)]) X dX7_region_88 (by decide) rfl ?_
    refine v_aload X 0 dX7_region_90 rfl ?_
    refine v_iload_n X 3 dX7_region_92 rfl rfl ?_
    refine v_put (i := (iP (xa).toNatClampNeg)) (k := 1) (x := xb) (ty := .int) X (lt_PT (vin_lt hv87)) (sh_PT (vin_lt hv87)) rfl in_PT (by decide) tyX3 tyX3_ok nX3 wf_SM_61 rfl rfl rfl rfl rfl (fun _ => Nat.le_of_ble_eq_true rfl) (fun _ _ => rfl) dX7_region_93 ?_
    generalize hg93 : (up σ (iP (xa).toNatClampNeg) 1 xb) = g93
    refine v_aload X 0 dX7_region_96 rfl ?_
    refine v_iload_n X 4 dX7_region_98 rfl rfl ?_
    refine v_put (i := (iP (xa).toNatClampNeg)) (k := 2) (x := xc) (ty := .int) X (lt_PT (vin_lt hv87)) (sh_PT (vin_lt hv87)) rfl in_PT (by decide) tyX3 tyX3_ok nX3 wf_SM_66 rfl rfl rfl rfl rfl (fun _ => Nat.le_of_ble_eq_true rfl) (fun _ _ => rfl) dX7_region_99 ?_
    generalize hg99 : (up g93 (iP (xa).toNatClampNeg) 2 xc) = g99
    have e9 : f_SM_region xa xb xc σ = (0, 0, g99) := by subst hg93; subst hg99; simp only [f_SM_region, if_pos h40, if_pos h55, if_pos h68]
    exact hend _ _ _ _ _ e9 (by decide) (by decide) dX7_region_102
  ·
    have e9 : f_SM_region xa xb xc σ = (3, 0, σ) := by simp only [f_SM_region, if_pos h40, if_pos h55, if_neg h68]
    exact hnew _ _ _ _ _ 3 _ e9 (by decide) tw_SM_3 dX7_region_71 dX7_region_74 dX7_region_75 dX7_region_78 (by decide) (by decide) (by decide) (Nat.le_of_ble_eq_true rfl)
def f_SM_load (xa : Int32) (xb : Int32) (σ : St) : Int32 × Int32 × St :=
  (if f_SM_refuseBadUnless (f_SM_isWord xa) = 0 then (if f_SM_refuseNowUnless ((if (σ iSM 2) = 0 then 1 else 0) : Int32) = 0 then (0, 0, (up σ iWO (xa).toNatClampNeg xb)) else (f_SM_refuseNowUnless ((if (σ iSM 2) = 0 then 1 else 0) : Int32), 0, σ)) else (f_SM_refuseBadUnless (f_SM_isWord xa), 0, σ))
set_option maxHeartbeats 4000000 in
set_option maxRecDepth 100000 in
theorem c_SM_load (hlt : l.stackTraces = false) (xa : Int32) (xb : Int32) (σ : St) (hI : Ic σ) : CFV l D (tyL cA) rh (rcW rh cA) NW yX7_load cX7_load 3 7 3 18 [.ref (rh iSM), .int xa, .int xb] σ (f_SM_load xa xb σ) := by
  refine CFV.of rfl (Nat.le_of_ble_eq_true rfl) hlt ?_
  intro p9 e s m args below meth c A Q X hend hthr hnew
  refine v_lv (lv' := [(0, .ref (rh iSM)), (1, .int xa), (2, .int xb)]) [0, 1, 2] rfl ?_
  refine v_iload_n X 1 dX7_load_0 rfl rfl ?_
  refine v_callS_CI (rest := []) X [.int xa] (c_SM_isWord xa σ ) mf_SM_isWord ws_SM_isWord wm_SM_69 rfl ⟨by decide, by decide⟩ (Nat.le_of_ble_eq_true rfl) ⟨by decide, by decide⟩ dX7_load_1 ?_
  refine v_callS_CFV (rest := []) X [.int (f_SM_isWord xa)] (c_SM_refuseBadUnless hlt (f_SM_isWord xa) σ ) mf_SM_refuseBadUnless ws_SM_refuseBadUnless wm_SM_44 rfl ⟨by decide, by decide⟩ (Nat.le_of_ble_eq_true rfl) ⟨by decide, by decide⟩ dX7_load_4 (fun h4 => ?_) (fun h4 => ?_)
  ·
    have e9 : f_SM_load xa xb σ = (f_SM_refuseBadUnless (f_SM_isWord xa), 0, σ) := by simp only [f_SM_load, if_neg h4]
    exact hthr _ _ _ _ _ _ _ e9 h4 (by decide) (by decide)
  refine v_aload_n X 0 dX7_load_7 rfl rfl ?_
  refine v_getI (i := iSM) (k := 2) X (lt_SM ) (sh_SM ) rfl in_SM (by decide) wf_SM_25 rfl (fun _ => rfl) dX7_load_8 ?_
  refine v_suff (pc2 := 19) (lv2 := [(0, .ref (rh iSM)), (1, .int xa), (2, .int xb)]) (st2 := [.int ((if (σ iSM 2) = 0 then 1 else 0) : Int32)]) (σ2 := σ) ?_ (fun J11 => ?_)
  rotate_left
  ·
    refine v_if_ne X 18 dX7_load_11 (by decide) (fun h11 => ?_) (fun h11 => ?_)
    ·
      refine v_iconst (v := 0) X dX7_load_18 (by decide) ?_
      have e9 : (((if (σ iSM 2) = 0 then 1 else 0) : Int32) : Int32) = 0 := by simp only [if_neg h11]
      rw [e9] at J11
      exact J11
    ·
      refine v_iconst (v := 1) X dX7_load_14 (by decide) ?_
      refine v_goto (tgt := 19) X dX7_load_15 (by decide) ?_
      have e9 : (((if (σ iSM 2) = 0 then 1 else 0) : Int32) : Int32) = 1 := by simp only [if_pos h11]
      rw [e9] at J11
      exact J11
  refine v_callS_CFV (rest := []) X [.int ((if (σ iSM 2) = 0 then 1 else 0) : Int32)] (c_SM_refuseNowUnless hlt ((if (σ iSM 2) = 0 then 1 else 0) : Int32) σ ) mf_SM_refuseNowUnless ws_SM_refuseNowUnless wm_SM_48 rfl ⟨by decide, by decide⟩ (Nat.le_of_ble_eq_true rfl) ⟨by decide, by decide⟩ dX7_load_19 (fun h19 => ?_) (fun h19 => ?_)
  ·
    have e9 : f_SM_load xa xb σ = (f_SM_refuseNowUnless ((if (σ iSM 2) = 0 then 1 else 0) : Int32), 0, σ) := by simp only [f_SM_load, if_pos h4, if_neg h19]
    exact hthr _ _ _ _ _ _ _ e9 h19 (by decide) (by decide)
  refine v_aload_n X 0 dX7_load_22 rfl rfl ?_
  refine v_getR (j := iMA) (i := iSM) (k := 0) X (lt_SM ) (sh_SM ) rfl in_SM (by decide) wf_SM_12 rfl (fun _ => rfl) dX7_load_23 ?_
  refine v_getR (j := iWO) (i := iMA) (k := 1) X (lt_MA ) (sh_MA ) rfl in_MA (by decide) wf_SM_72 rfl (fun _ => rfl) dX7_load_26 ?_
  refine v_iload_n X 1 dX7_load_29 rfl rfl ?_
  refine v_iload_n X 2 dX7_load_30 rfl rfl ?_
  have hv31 : vp_in xa 96 := (wo_in (rb_nz h4))
  refine v_iast (i := iWO) (t0 := 0) X (lt_WO ) (sh_WO ) rfl hv31 dX7_load_31 ?_
  generalize hg31 : (up σ iWO (xa).toNatClampNeg xb) = g31
  have hI31 : Ic g31 := by rw [← hg31]; exact (Ic.upWO hI)
  have e9 : f_SM_load xa xb σ = (0, 0, g31) := by subst hg31; simp only [f_SM_load, if_pos h4, if_pos h19]
  exact hend _ _ _ _ _ e9 (by decide) (by decide) dX7_load_32
def f_SM_policy (xa : Int32) (xb : Int32) (σ : St) : Int32 × Int32 × St :=
  (if f_SM_refuseBadUnless ((if (f_SM_isPartition xa) = 0 then 0 else (if (f_SM_within xb 0 2) = 0 then 0 else 1)) : Int32) = 0 then (if f_SM_refuseNowUnless ((if (σ iSM 2) = 0 then 1 else 0) : Int32) = 0 then (0, 0, (up σ (iP (xa).toNatClampNeg) 3 xb)) else (f_SM_refuseNowUnless ((if (σ iSM 2) = 0 then 1 else 0) : Int32), 0, σ)) else (f_SM_refuseBadUnless ((if (f_SM_isPartition xa) = 0 then 0 else (if (f_SM_within xb 0 2) = 0 then 0 else 1)) : Int32), 0, σ))
set_option maxHeartbeats 4000000 in
set_option maxRecDepth 100000 in
theorem c_SM_policy (hlt : l.stackTraces = false) (xa : Int32) (xb : Int32) (σ : St) (hI : Ic σ) : CFV l D (tyL cA) rh (rcW rh cA) NW yX7_policy cX7_policy 3 7 3 18 [.ref (rh iSM), .int xa, .int xb] σ (f_SM_policy xa xb σ) := by
  refine CFV.of rfl (Nat.le_of_ble_eq_true rfl) hlt ?_
  intro p9 e s m args below meth c A Q X hend hthr hnew
  refine v_lv (lv' := [(0, .ref (rh iSM)), (1, .int xa), (2, .int xb)]) [0, 1, 2] rfl ?_
  refine v_iload_n X 1 dX7_policy_0 rfl rfl ?_
  refine v_callS_CI (rest := []) X [.int xa] (c_SM_isPartition xa σ ) mf_SM_isPartition ws_SM_isPartition wm_SM_36 rfl ⟨by decide, by decide⟩ (Nat.le_of_ble_eq_true rfl) ⟨by decide, by decide⟩ dX7_policy_1 ?_
  refine v_suff (pc2 := 21) (lv2 := [(0, .ref (rh iSM)), (1, .int xa), (2, .int xb)]) (st2 := [.int ((if (f_SM_isPartition xa) = 0 then 0 else (if (f_SM_within xb 0 2) = 0 then 0 else 1)) : Int32)]) (σ2 := σ) ?_ (fun J4 => ?_)
  rotate_left
  ·
    refine v_if_eq X 20 dX7_policy_4 (by decide) (fun h4 => ?_) (fun h4 => ?_)
    ·
      refine v_iconst (v := 0) X dX7_policy_20 (by decide) ?_
      have e9 : (((if (f_SM_isPartition xa) = 0 then 0 else (if (f_SM_within xb 0 2) = 0 then 0 else 1)) : Int32) : Int32) = 0 := by simp only [if_pos h4]
      rw [e9] at J4
      exact J4
    ·
      refine v_iload_n X 2 dX7_policy_7 rfl rfl ?_
      refine v_iconst (v := 0) X dX7_policy_8 (by decide) ?_
      refine v_iconst (v := 2) X dX7_policy_9 (by decide) ?_
      refine v_callS_CI (rest := []) X [.int xb, .int 0, .int 2] (c_SM_within xb 0 2 σ ) mf_SM_within ws_SM_within wm_SM_40 rfl ⟨by decide, by decide⟩ (Nat.le_of_ble_eq_true rfl) ⟨by decide, by decide⟩ dX7_policy_10 ?_
      refine v_if_eq X 20 dX7_policy_13 (by decide) (fun h13 => ?_) (fun h13 => ?_)
      ·
        refine v_iconst (v := 0) X dX7_policy_20 (by decide) ?_
        have e9 : (((if (f_SM_isPartition xa) = 0 then 0 else (if (f_SM_within xb 0 2) = 0 then 0 else 1)) : Int32) : Int32) = 0 := by simp only [if_neg h4, if_pos h13]
        rw [e9] at J4
        exact J4
      ·
        refine v_iconst (v := 1) X dX7_policy_16 (by decide) ?_
        refine v_goto (tgt := 21) X dX7_policy_17 (by decide) ?_
        have e9 : (((if (f_SM_isPartition xa) = 0 then 0 else (if (f_SM_within xb 0 2) = 0 then 0 else 1)) : Int32) : Int32) = 1 := by simp only [if_neg h4, if_neg h13]
        rw [e9] at J4
        exact J4
  refine v_callS_CFV (rest := []) X [.int ((if (f_SM_isPartition xa) = 0 then 0 else (if (f_SM_within xb 0 2) = 0 then 0 else 1)) : Int32)] (c_SM_refuseBadUnless hlt ((if (f_SM_isPartition xa) = 0 then 0 else (if (f_SM_within xb 0 2) = 0 then 0 else 1)) : Int32) σ ) mf_SM_refuseBadUnless ws_SM_refuseBadUnless wm_SM_44 rfl ⟨by decide, by decide⟩ (Nat.le_of_ble_eq_true rfl) ⟨by decide, by decide⟩ dX7_policy_21 (fun h21 => ?_) (fun h21 => ?_)
  ·
    have e9 : f_SM_policy xa xb σ = (f_SM_refuseBadUnless ((if (f_SM_isPartition xa) = 0 then 0 else (if (f_SM_within xb 0 2) = 0 then 0 else 1)) : Int32), 0, σ) := by simp only [f_SM_policy, if_neg h21]
    exact hthr _ _ _ _ _ _ _ e9 h21 (by decide) (by decide)
  refine v_aload_n X 0 dX7_policy_24 rfl rfl ?_
  refine v_getI (i := iSM) (k := 2) X (lt_SM ) (sh_SM ) rfl in_SM (by decide) wf_SM_25 rfl (fun _ => rfl) dX7_policy_25 ?_
  refine v_suff (pc2 := 36) (lv2 := [(0, .ref (rh iSM)), (1, .int xa), (2, .int xb)]) (st2 := [.int ((if (σ iSM 2) = 0 then 1 else 0) : Int32)]) (σ2 := σ) ?_ (fun J28 => ?_)
  rotate_left
  ·
    refine v_if_ne X 35 dX7_policy_28 (by decide) (fun h28 => ?_) (fun h28 => ?_)
    ·
      refine v_iconst (v := 0) X dX7_policy_35 (by decide) ?_
      have e9 : (((if (σ iSM 2) = 0 then 1 else 0) : Int32) : Int32) = 0 := by simp only [if_neg h28]
      rw [e9] at J28
      exact J28
    ·
      refine v_iconst (v := 1) X dX7_policy_31 (by decide) ?_
      refine v_goto (tgt := 36) X dX7_policy_32 (by decide) ?_
      have e9 : (((if (σ iSM 2) = 0 then 1 else 0) : Int32) : Int32) = 1 := by simp only [if_pos h28]
      rw [e9] at J28
      exact J28
  refine v_callS_CFV (rest := []) X [.int ((if (σ iSM 2) = 0 then 1 else 0) : Int32)] (c_SM_refuseNowUnless hlt ((if (σ iSM 2) = 0 then 1 else 0) : Int32) σ ) mf_SM_refuseNowUnless ws_SM_refuseNowUnless wm_SM_48 rfl ⟨by decide, by decide⟩ (Nat.le_of_ble_eq_true rfl) ⟨by decide, by decide⟩ dX7_policy_36 (fun h36 => ?_) (fun h36 => ?_)
  ·
    have e9 : f_SM_policy xa xb σ = (f_SM_refuseNowUnless ((if (σ iSM 2) = 0 then 1 else 0) : Int32), 0, σ) := by simp only [f_SM_policy, if_pos h21, if_neg h36]
    exact hthr _ _ _ _ _ _ _ e9 h36 (by decide) (by decide)
  refine v_aload_n X 0 dX7_policy_39 rfl rfl ?_
  refine v_getR (j := iMA) (i := iSM) (k := 0) X (lt_SM ) (sh_SM ) rfl in_SM (by decide) wf_SM_12 rfl (fun _ => rfl) dX7_policy_40 ?_
  refine v_getR (j := iAP) (i := iMA) (k := 2) X (lt_MA ) (sh_MA ) rfl in_MA (by decide) wf_SM_57 rfl (fun _ => rfl) dX7_policy_43 ?_
  refine v_iload_n X 1 dX7_policy_46 rfl rfl ?_
  have hv47 : vp_in xa 4 := (pt_in (ifnz (rb_nz h21)))
  refine v_aald (i := iAP) (t0 := 1) (g := iP) X (lt_APT ) (sh_APT ) rfl hv47 dX7_policy_47 ?_
  refine v_iload_n X 2 dX7_policy_48 rfl rfl ?_
  refine v_put (i := (iP (xa).toNatClampNeg)) (k := 3) (x := xb) (ty := .int) X (lt_PT (vin_lt hv47)) (sh_PT (vin_lt hv47)) rfl in_PT (by decide) tyX3 tyX3_ok nX3 wf_SM_76 rfl rfl rfl rfl rfl (fun _ => Nat.le_of_ble_eq_true rfl) (fun _ _ => rfl) dX7_policy_49 ?_
  generalize hg49 : (up σ (iP (xa).toNatClampNeg) 3 xb) = g49
  have hI49 : Ic g49 := by rw [← hg49]; exact (Ic.upPT hI (by decide))
  have e9 : f_SM_policy xa xb σ = (0, 0, g49) := by subst hg49; simp only [f_SM_policy, if_pos h21, if_pos h36]
  exact hend _ _ _ _ _ e9 (by decide) (by decide) dX7_policy_52
def f_SM_window (xa : Int32) (xb : Int32) (σ : St) : Int32 × Int32 × St :=
  (if f_SM_refuseBadUnless ((if (f_SM_isPartition xa) = 0 then 0 else (if (f_SM_within xb 1 20) = 0 then 0 else 1)) : Int32) = 0 then (if f_SM_refuseNowUnless ((if (σ iSM 2) = 0 then (if 6 ≤ (σ iTT 2) then 0 else 1) else 0) : Int32) = 0 then (0, ((f_TT_append xa xb σ) iTT 2), (f_TT_append xa xb σ)) else (f_SM_refuseNowUnless ((if (σ iSM 2) = 0 then (if 6 ≤ (σ iTT 2) then 0 else 1) else 0) : Int32), 0, σ)) else (f_SM_refuseBadUnless ((if (f_SM_isPartition xa) = 0 then 0 else (if (f_SM_within xb 1 20) = 0 then 0 else 1)) : Int32), 0, σ))
set_option maxHeartbeats 4000000 in
set_option maxRecDepth 100000 in
theorem c_SM_window (hlt : l.stackTraces = false) (xa : Int32) (xb : Int32) (σ : St) (hI : Ic σ) : CFI l D (tyL cA) rh (rcW rh cA) NW yX7_window cX7_window 3 7 3 18 [.ref (rh iSM), .int xa, .int xb] σ (f_SM_window xa xb σ) := by
  refine CFI.of rfl (Nat.le_of_ble_eq_true rfl) hlt ?_
  intro p9 e s m args below meth c A Q X hend hthr hnew
  refine v_lv (lv' := [(0, .ref (rh iSM)), (1, .int xa), (2, .int xb)]) [0, 1, 2] rfl ?_
  refine v_iload_n X 1 dX7_window_0 rfl rfl ?_
  refine v_callS_CI (rest := []) X [.int xa] (c_SM_isPartition xa σ ) mf_SM_isPartition ws_SM_isPartition wm_SM_36 rfl ⟨by decide, by decide⟩ (Nat.le_of_ble_eq_true rfl) ⟨by decide, by decide⟩ dX7_window_1 ?_
  refine v_suff (pc2 := 22) (lv2 := [(0, .ref (rh iSM)), (1, .int xa), (2, .int xb)]) (st2 := [.int ((if (f_SM_isPartition xa) = 0 then 0 else (if (f_SM_within xb 1 20) = 0 then 0 else 1)) : Int32)]) (σ2 := σ) ?_ (fun J4 => ?_)
  rotate_left
  ·
    refine v_if_eq X 21 dX7_window_4 (by decide) (fun h4 => ?_) (fun h4 => ?_)
    ·
      refine v_iconst (v := 0) X dX7_window_21 (by decide) ?_
      have e9 : (((if (f_SM_isPartition xa) = 0 then 0 else (if (f_SM_within xb 1 20) = 0 then 0 else 1)) : Int32) : Int32) = 0 := by simp only [if_pos h4]
      rw [e9] at J4
      exact J4
    ·
      refine v_iload_n X 2 dX7_window_7 rfl rfl ?_
      refine v_iconst (v := 1) X dX7_window_8 (by decide) ?_
      refine v_bipush (v := 20) X dX7_window_9 (by decide) ?_
      refine v_callS_CI (rest := []) X [.int xb, .int 1, .int 20] (c_SM_within xb 1 20 σ ) mf_SM_within ws_SM_within wm_SM_40 rfl ⟨by decide, by decide⟩ (Nat.le_of_ble_eq_true rfl) ⟨by decide, by decide⟩ dX7_window_11 ?_
      refine v_if_eq X 21 dX7_window_14 (by decide) (fun h14 => ?_) (fun h14 => ?_)
      ·
        refine v_iconst (v := 0) X dX7_window_21 (by decide) ?_
        have e9 : (((if (f_SM_isPartition xa) = 0 then 0 else (if (f_SM_within xb 1 20) = 0 then 0 else 1)) : Int32) : Int32) = 0 := by simp only [if_neg h4, if_pos h14]
        rw [e9] at J4
        exact J4
      ·
        refine v_iconst (v := 1) X dX7_window_17 (by decide) ?_
        refine v_goto (tgt := 22) X dX7_window_18 (by decide) ?_
        have e9 : (((if (f_SM_isPartition xa) = 0 then 0 else (if (f_SM_within xb 1 20) = 0 then 0 else 1)) : Int32) : Int32) = 1 := by simp only [if_neg h4, if_neg h14]
        rw [e9] at J4
        exact J4
  refine v_callS_CFV (rest := []) X [.int ((if (f_SM_isPartition xa) = 0 then 0 else (if (f_SM_within xb 1 20) = 0 then 0 else 1)) : Int32)] (c_SM_refuseBadUnless hlt ((if (f_SM_isPartition xa) = 0 then 0 else (if (f_SM_within xb 1 20) = 0 then 0 else 1)) : Int32) σ ) mf_SM_refuseBadUnless ws_SM_refuseBadUnless wm_SM_44 rfl ⟨by decide, by decide⟩ (Nat.le_of_ble_eq_true rfl) ⟨by decide, by decide⟩ dX7_window_22 (fun h22 => ?_) (fun h22 => ?_)
  ·
    have e9 : f_SM_window xa xb σ = (f_SM_refuseBadUnless ((if (f_SM_isPartition xa) = 0 then 0 else (if (f_SM_within xb 1 20) = 0 then 0 else 1)) : Int32), 0, σ) := by simp only [f_SM_window, if_neg h22]
    exact hthr _ _ _ _ _ _ _ e9 h22 (by decide) (by decide)
  refine v_aload_n X 0 dX7_window_25 rfl rfl ?_
  refine v_getI (i := iSM) (k := 2) X (lt_SM ) (sh_SM ) rfl in_SM (by decide) wf_SM_25 rfl (fun _ => rfl) dX7_window_26 ?_
  refine v_suff (pc2 := 49) (lv2 := [(0, .ref (rh iSM)), (1, .int xa), (2, .int xb)]) (st2 := [.int ((if (σ iSM 2) = 0 then (if 6 ≤ (σ iTT 2) then 0 else 1) else 0) : Int32)]) (σ2 := σ) ?_ (fun J29 => ?_)
  rotate_left
  ·
    refine v_if_ne X 48 dX7_window_29 (by decide) (fun h29 => ?_) (fun h29 => ?_)
    ·
      refine v_iconst (v := 0) X dX7_window_48 (by decide) ?_
      have e9 : (((if (σ iSM 2) = 0 then (if 6 ≤ (σ iTT 2) then 0 else 1) else 0) : Int32) : Int32) = 0 := by simp only [if_neg h29]
      rw [e9] at J29
      exact J29
    ·
      refine v_aload_n X 0 dX7_window_32 rfl rfl ?_
      refine v_getR (j := iTT) (i := iSM) (k := 1) X (lt_SM ) (sh_SM ) rfl in_SM (by decide) wf_SM_21 rfl (fun _ => rfl) dX7_window_33 ?_
      refine v_getI (i := iTT) (k := 2) X (lt_TT ) (sh_TT ) rfl in_TT (by decide) wf_SM_79 rfl (fun _ => rfl) dX7_window_36 ?_
      refine v_bipush (v := 6) X dX7_window_39 (by decide) ?_
      refine v_icmp_ge X 48 dX7_window_41 (by decide) (fun h41 => ?_) (fun h41 => ?_)
      ·
        refine v_iconst (v := 0) X dX7_window_48 (by decide) ?_
        have e9 : (((if (σ iSM 2) = 0 then (if 6 ≤ (σ iTT 2) then 0 else 1) else 0) : Int32) : Int32) = 0 := by simp only [if_pos h29, if_pos h41]
        rw [e9] at J29
        exact J29
      ·
        refine v_iconst (v := 1) X dX7_window_44 (by decide) ?_
        refine v_goto (tgt := 49) X dX7_window_45 (by decide) ?_
        have e9 : (((if (σ iSM 2) = 0 then (if 6 ≤ (σ iTT 2) then 0 else 1) else 0) : Int32) : Int32) = 1 := by simp only [if_pos h29, if_neg h41]
        rw [e9] at J29
        exact J29
  refine v_callS_CFV (rest := []) X [.int ((if (σ iSM 2) = 0 then (if 6 ≤ (σ iTT 2) then 0 else 1) else 0) : Int32)] (c_SM_refuseNowUnless hlt ((if (σ iSM 2) = 0 then (if 6 ≤ (σ iTT 2) then 0 else 1) else 0) : Int32) σ ) mf_SM_refuseNowUnless ws_SM_refuseNowUnless wm_SM_48 rfl ⟨by decide, by decide⟩ (Nat.le_of_ble_eq_true rfl) ⟨by decide, by decide⟩ dX7_window_49 (fun h49 => ?_) (fun h49 => ?_)
  ·
    have e9 : f_SM_window xa xb σ = (f_SM_refuseNowUnless ((if (σ iSM 2) = 0 then (if 6 ≤ (σ iTT 2) then 0 else 1) else 0) : Int32), 0, σ) := by simp only [f_SM_window, if_pos h22, if_neg h49]
    exact hthr _ _ _ _ _ _ _ e9 h49 (by decide) (by decide)
  refine v_aload_n X 0 dX7_window_52 rfl rfl ?_
  refine v_getR (j := iTT) (i := iSM) (k := 1) X (lt_SM ) (sh_SM ) rfl in_SM (by decide) wf_SM_21 rfl (fun _ => rfl) dX7_window_53 ?_
  refine v_iload_n X 1 dX7_window_56 rfl rfl ?_
  refine v_iload_n X 2 dX7_window_57 rfl rfl ?_
  refine v_callV_CV (rest := []) X [.int xa, .int xb] (c_TT_append xa xb σ hI) mf_TT_append wi_TT_append wl_TT_append (lt_TT ) (sh_TT ) rfl wm_SM_80 rfl ⟨by decide, by decide⟩ (Nat.le_of_ble_eq_true rfl) ⟨by decide, by decide⟩ dX7_window_58 ?_
  generalize hg58 : (f_TT_append xa xb σ) = g58
  refine v_aload_n X 0 dX7_window_61 rfl rfl ?_
  refine v_getR (j := iTT) (i := iSM) (k := 1) X (lt_SM ) (sh_SM ) rfl in_SM (by decide) wf_SM_21 rfl (fun _ => rfl) dX7_window_62 ?_
  refine v_getI (i := iTT) (k := 2) X (lt_TT ) (sh_TT ) rfl in_TT (by decide) wf_SM_79 rfl (fun _ => rfl) dX7_window_65 ?_
  have e9 : f_SM_window xa xb σ = (0, (g58 iTT 2), g58) := by subst hg58; simp only [f_SM_window, if_pos h22, if_pos h49]
  exact hend _ _ _ _ _ _ e9 (by decide) (by decide) dX7_window_68
def f_SM_channel (xa : Int32) (xb : Int32) (xc : Int32) (xd : Int32) (σ : St) : Int32 × Int32 × St :=
  (if f_SM_refuseBadUnless ((if (f_SM_isChannel xa) = 0 then 0 else (if (f_SM_within xb (-1) 3) = 0 then 0 else (if (f_SM_within xc 0 15) = 0 then 0 else (if (f_SM_within xd 1 100) = 0 then 0 else 1)))) : Int32) = 0 then (if f_SM_refuseNowUnless ((if (σ iSM 2) = 0 then 1 else 0) : Int32) = 0 then (0, 0, (up (up (up σ (iC (xa).toNatClampNeg) 0 xb) (iC (xa).toNatClampNeg) 1 xc) (iC (xa).toNatClampNeg) 2 xd)) else (f_SM_refuseNowUnless ((if (σ iSM 2) = 0 then 1 else 0) : Int32), 0, σ)) else (f_SM_refuseBadUnless ((if (f_SM_isChannel xa) = 0 then 0 else (if (f_SM_within xb (-1) 3) = 0 then 0 else (if (f_SM_within xc 0 15) = 0 then 0 else (if (f_SM_within xd 1 100) = 0 then 0 else 1)))) : Int32), 0, σ))
set_option maxHeartbeats 4000000 in
set_option maxRecDepth 100000 in
theorem c_SM_channel (hlt : l.stackTraces = false) (xa : Int32) (xb : Int32) (xc : Int32) (xd : Int32) (σ : St) (hI : Ic σ) : CFV l D (tyL cA) rh (rcW rh cA) NW yX7_channel cX7_channel 6 7 3 18 [.ref (rh iSM), .int xa, .int xb, .int xc, .int xd] σ (f_SM_channel xa xb xc xd σ) := by
  refine CFV.of rfl (Nat.le_of_ble_eq_true rfl) hlt ?_
  intro p9 e s m args below meth c A Q X hend hthr hnew
  refine v_lv (lv' := [(0, .ref (rh iSM)), (1, .int xa), (2, .int xb), (3, .int xc), (4, .int xd)]) [0, 1, 2, 3, 4] rfl ?_
  refine v_iload_n X 1 dX7_channel_0 rfl rfl ?_
  refine v_callS_CI (rest := []) X [.int xa] (c_SM_isChannel xa σ ) mf_SM_isChannel ws_SM_isChannel wm_SM_84 rfl ⟨by decide, by decide⟩ (Nat.le_of_ble_eq_true rfl) ⟨by decide, by decide⟩ dX7_channel_1 ?_
  refine v_suff (pc2 := 42) (lv2 := [(0, .ref (rh iSM)), (1, .int xa), (2, .int xb), (3, .int xc), (4, .int xd)]) (st2 := [.int ((if (f_SM_isChannel xa) = 0 then 0 else (if (f_SM_within xb (-1) 3) = 0 then 0 else (if (f_SM_within xc 0 15) = 0 then 0 else (if (f_SM_within xd 1 100) = 0 then 0 else 1)))) : Int32)]) (σ2 := σ) ?_ (fun J4 => ?_)
  rotate_left
  ·
    refine v_if_eq X 41 dX7_channel_4 (by decide) (fun h4 => ?_) (fun h4 => ?_)
    ·
      refine v_iconst (v := 0) X dX7_channel_41 (by decide) ?_
      have e9 : (((if (f_SM_isChannel xa) = 0 then 0 else (if (f_SM_within xb (-1) 3) = 0 then 0 else (if (f_SM_within xc 0 15) = 0 then 0 else (if (f_SM_within xd 1 100) = 0 then 0 else 1)))) : Int32) : Int32) = 0 := by simp only [if_pos h4]
      rw [e9] at J4
      exact J4
    ·
      refine v_iload_n X 2 dX7_channel_7 rfl rfl ?_
      refine v_iconst (v := (-1)) X dX7_channel_8 (by decide) ?_
      refine v_iconst (v := 3) X dX7_channel_9 (by decide) ?_
      refine v_callS_CI (rest := []) X [.int xb, .int (-1), .int 3] (c_SM_within xb (-1) 3 σ ) mf_SM_within ws_SM_within wm_SM_40 rfl ⟨by decide, by decide⟩ (Nat.le_of_ble_eq_true rfl) ⟨by decide, by decide⟩ dX7_channel_10 ?_
      refine v_if_eq X 41 dX7_channel_13 (by decide) (fun h13 => ?_) (fun h13 => ?_)
      ·
        refine v_iconst (v := 0) X dX7_channel_41 (by decide) ?_
        have e9 : (((if (f_SM_isChannel xa) = 0 then 0 else (if (f_SM_within xb (-1) 3) = 0 then 0 else (if (f_SM_within xc 0 15) = 0 then 0 else (if (f_SM_within xd 1 100) = 0 then 0 else 1)))) : Int32) : Int32) = 0 := by simp only [if_neg h4, if_pos h13]
        rw [e9] at J4
        exact J4
      ·
        refine v_iload_n X 3 dX7_channel_16 rfl rfl ?_
        refine v_iconst (v := 0) X dX7_channel_17 (by decide) ?_
        refine v_bipush (v := 15) X dX7_channel_18 (by decide) ?_
        refine v_callS_CI (rest := []) X [.int xc, .int 0, .int 15] (c_SM_within xc 0 15 σ ) mf_SM_within ws_SM_within wm_SM_40 rfl ⟨by decide, by decide⟩ (Nat.le_of_ble_eq_true rfl) ⟨by decide, by decide⟩ dX7_channel_20 ?_
        refine v_if_eq X 41 dX7_channel_23 (by decide) (fun h23 => ?_) (fun h23 => ?_)
        ·
          refine v_iconst (v := 0) X dX7_channel_41 (by decide) ?_
          have e9 : (((if (f_SM_isChannel xa) = 0 then 0 else (if (f_SM_within xb (-1) 3) = 0 then 0 else (if (f_SM_within xc 0 15) = 0 then 0 else (if (f_SM_within xd 1 100) = 0 then 0 else 1)))) : Int32) : Int32) = 0 := by simp only [if_neg h4, if_neg h13, if_pos h23]
          rw [e9] at J4
          exact J4
        ·
          refine v_iload X 4 dX7_channel_26 rfl ?_
          refine v_iconst (v := 1) X dX7_channel_28 (by decide) ?_
          refine v_bipush (v := 100) X dX7_channel_29 (by decide) ?_
          refine v_callS_CI (rest := []) X [.int xd, .int 1, .int 100] (c_SM_within xd 1 100 σ ) mf_SM_within ws_SM_within wm_SM_40 rfl ⟨by decide, by decide⟩ (Nat.le_of_ble_eq_true rfl) ⟨by decide, by decide⟩ dX7_channel_31 ?_
          refine v_if_eq X 41 dX7_channel_34 (by decide) (fun h34 => ?_) (fun h34 => ?_)
          ·
            refine v_iconst (v := 0) X dX7_channel_41 (by decide) ?_
            have e9 : (((if (f_SM_isChannel xa) = 0 then 0 else (if (f_SM_within xb (-1) 3) = 0 then 0 else (if (f_SM_within xc 0 15) = 0 then 0 else (if (f_SM_within xd 1 100) = 0 then 0 else 1)))) : Int32) : Int32) = 0 := by simp only [if_neg h4, if_neg h13, if_neg h23, if_pos h34]
            rw [e9] at J4
            exact J4
          ·
            refine v_iconst (v := 1) X dX7_channel_37 (by decide) ?_
            refine v_goto (tgt := 42) X dX7_channel_38 (by decide) ?_
            have e9 : (((if (f_SM_isChannel xa) = 0 then 0 else (if (f_SM_within xb (-1) 3) = 0 then 0 else (if (f_SM_within xc 0 15) = 0 then 0 else (if (f_SM_within xd 1 100) = 0 then 0 else 1)))) : Int32) : Int32) = 1 := by simp only [if_neg h4, if_neg h13, if_neg h23, if_neg h34]
            rw [e9] at J4
            exact J4
  refine v_callS_CFV (rest := []) X [.int ((if (f_SM_isChannel xa) = 0 then 0 else (if (f_SM_within xb (-1) 3) = 0 then 0 else (if (f_SM_within xc 0 15) = 0 then 0 else (if (f_SM_within xd 1 100) = 0 then 0 else 1)))) : Int32)] (c_SM_refuseBadUnless hlt ((if (f_SM_isChannel xa) = 0 then 0 else (if (f_SM_within xb (-1) 3) = 0 then 0 else (if (f_SM_within xc 0 15) = 0 then 0 else (if (f_SM_within xd 1 100) = 0 then 0 else 1)))) : Int32) σ ) mf_SM_refuseBadUnless ws_SM_refuseBadUnless wm_SM_44 rfl ⟨by decide, by decide⟩ (Nat.le_of_ble_eq_true rfl) ⟨by decide, by decide⟩ dX7_channel_42 (fun h42 => ?_) (fun h42 => ?_)
  ·
    have e9 : f_SM_channel xa xb xc xd σ = (f_SM_refuseBadUnless ((if (f_SM_isChannel xa) = 0 then 0 else (if (f_SM_within xb (-1) 3) = 0 then 0 else (if (f_SM_within xc 0 15) = 0 then 0 else (if (f_SM_within xd 1 100) = 0 then 0 else 1)))) : Int32), 0, σ) := by simp only [f_SM_channel, if_neg h42]
    exact hthr _ _ _ _ _ _ _ e9 h42 (by decide) (by decide)
  refine v_aload_n X 0 dX7_channel_45 rfl rfl ?_
  refine v_getI (i := iSM) (k := 2) X (lt_SM ) (sh_SM ) rfl in_SM (by decide) wf_SM_25 rfl (fun _ => rfl) dX7_channel_46 ?_
  refine v_suff (pc2 := 57) (lv2 := [(0, .ref (rh iSM)), (1, .int xa), (2, .int xb), (3, .int xc), (4, .int xd)]) (st2 := [.int ((if (σ iSM 2) = 0 then 1 else 0) : Int32)]) (σ2 := σ) ?_ (fun J49 => ?_)
  rotate_left
  ·
    refine v_if_ne X 56 dX7_channel_49 (by decide) (fun h49 => ?_) (fun h49 => ?_)
    ·
      refine v_iconst (v := 0) X dX7_channel_56 (by decide) ?_
      have e9 : (((if (σ iSM 2) = 0 then 1 else 0) : Int32) : Int32) = 0 := by simp only [if_neg h49]
      rw [e9] at J49
      exact J49
    ·
      refine v_iconst (v := 1) X dX7_channel_52 (by decide) ?_
      refine v_goto (tgt := 57) X dX7_channel_53 (by decide) ?_
      have e9 : (((if (σ iSM 2) = 0 then 1 else 0) : Int32) : Int32) = 1 := by simp only [if_pos h49]
      rw [e9] at J49
      exact J49
  refine v_callS_CFV (rest := []) X [.int ((if (σ iSM 2) = 0 then 1 else 0) : Int32)] (c_SM_refuseNowUnless hlt ((if (σ iSM 2) = 0 then 1 else 0) : Int32) σ ) mf_SM_refuseNowUnless ws_SM_refuseNowUnless wm_SM_48 rfl ⟨by decide, by decide⟩ (Nat.le_of_ble_eq_true rfl) ⟨by decide, by decide⟩ dX7_channel_57 (fun h57 => ?_) (fun h57 => ?_)
  ·
    have e9 : f_SM_channel xa xb xc xd σ = (f_SM_refuseNowUnless ((if (σ iSM 2) = 0 then 1 else 0) : Int32), 0, σ) := by simp only [f_SM_channel, if_pos h42, if_neg h57]
    exact hthr _ _ _ _ _ _ _ e9 h57 (by decide) (by decide)
  refine v_aload_n X 0 dX7_channel_60 rfl rfl ?_
  refine v_getR (j := iMA) (i := iSM) (k := 0) X (lt_SM ) (sh_SM ) rfl in_SM (by decide) wf_SM_12 rfl (fun _ => rfl) dX7_channel_61 ?_
  refine v_getR (j := iAC) (i := iMA) (k := 3) X (lt_MA ) (sh_MA ) rfl in_MA (by decide) wf_SM_87 rfl (fun _ => rfl) dX7_channel_64 ?_
  refine v_iload_n X 1 dX7_channel_67 rfl rfl ?_
  have hv68 : vp_in xa 4 := (ch_in (ifnz (rb_nz h42)))
  refine v_aald (i := iAC) (t0 := 2) (g := iC) X (lt_ACH ) (sh_ACH ) rfl hv68 dX7_channel_68 ?_
  refine v_astore (lv' := [(5, .ref (rh (iC (xa).toNatClampNeg))), (0, .ref (rh iSM)), (1, .int xa), (2, .int xb), (3, .int xc), (4, .int xd)]) X dX7_channel_69 (by decide) rfl ?_
  refine v_aload X 0 dX7_channel_71 rfl ?_
  refine v_iload_n X 3 dX7_channel_73 rfl rfl ?_
  refine v_put (i := (iC (xa).toNatClampNeg)) (k := 0) (x := xb) (ty := .int) X (lt_CH (vin_lt hv68)) (sh_CH (vin_lt hv68)) rfl in_CH (by decide) tyX0 tyX0_ok nX0 wf_SM_91 rfl rfl rfl rfl rfl (fun _ => Nat.le_of_ble_eq_true rfl) (fun _ _ => rfl) dX7_channel_74 ?_
  generalize hg74 : (up σ (iC (xa).toNatClampNeg) 0 xb) = g74
  have hI74 : Ic g74 := by rw [← hg74]; exact (Ic.upCH hI)
  refine v_aload X 0 dX7_channel_77 rfl ?_
  refine v_iload_n X 4 dX7_channel_79 rfl rfl ?_
  refine v_put (i := (iC (xa).toNatClampNeg)) (k := 1) (x := xc) (ty := .int) X (lt_CH (vin_lt hv68)) (sh_CH (vin_lt hv68)) rfl in_CH (by decide) tyX0 tyX0_ok nX0 wf_SM_96 rfl rfl rfl rfl rfl (fun _ => Nat.le_of_ble_eq_true rfl) (fun _ _ => rfl) dX7_channel_80 ?_
  generalize hg80 : (up g74 (iC (xa).toNatClampNeg) 1 xc) = g80
  have hI80 : Ic g80 := by rw [← hg80]; exact (Ic.upCH hI74)
  refine v_aload X 0 dX7_channel_83 rfl ?_
  refine v_iload X 5 dX7_channel_85 rfl ?_
  refine v_put (i := (iC (xa).toNatClampNeg)) (k := 2) (x := xd) (ty := .int) X (lt_CH (vin_lt hv68)) (sh_CH (vin_lt hv68)) rfl in_CH (by decide) tyX0 tyX0_ok nX0 wf_SM_99 rfl rfl rfl rfl rfl (fun _ => Nat.le_of_ble_eq_true rfl) (fun _ _ => rfl) dX7_channel_87 ?_
  generalize hg87 : (up g80 (iC (xa).toNatClampNeg) 2 xd) = g87
  have hI87 : Ic g87 := by rw [← hg87]; exact (Ic.upCH hI80)
  have e9 : f_SM_channel xa xb xc xd σ = (0, 0, g87) := by subst hg74; subst hg80; subst hg87; simp only [f_SM_channel, if_pos h42, if_pos h57]
  exact hend _ _ _ _ _ e9 (by decide) (by decide) dX7_channel_90
def f_SM_boot (σ : St) : Int32 × Int32 × St :=
  (if f_SM_refuseNowUnless ((if (σ iSM 2) = 0 then (if (σ iTT 2) ≤ 0 then 0 else 1) else 0) : Int32) = 0 then (0, ((up (up (f_TT_start (up (f_MA_start σ).2 iSM 4 (f_MA_start σ).1)) iSM 2 1) iSM 3 (((up (f_TT_start (up (f_MA_start σ).2 iSM 4 (f_MA_start σ).1)) iSM 2 1) iSM 3) + 1)) iSM 4), (up (up (f_TT_start (up (f_MA_start σ).2 iSM 4 (f_MA_start σ).1)) iSM 2 1) iSM 3 (((up (f_TT_start (up (f_MA_start σ).2 iSM 4 (f_MA_start σ).1)) iSM 2 1) iSM 3) + 1))) else (f_SM_refuseNowUnless ((if (σ iSM 2) = 0 then (if (σ iTT 2) ≤ 0 then 0 else 1) else 0) : Int32), 0, σ))
set_option maxHeartbeats 4000000 in
set_option maxRecDepth 100000 in
theorem c_SM_boot (hlt : l.stackTraces = false)  (σ : St) (hI : Ic σ) : CFI l D (tyL cA) rh (rcW rh cA) NW yX7_boot cX7_boot 1 7 3 18 [.ref (rh iSM)] σ (f_SM_boot σ) := by
  refine CFI.of rfl (Nat.le_of_ble_eq_true rfl) hlt ?_
  intro p9 e s m args below meth c A Q X hend hthr hnew
  refine v_lv (lv' := [(0, .ref (rh iSM))]) [0] rfl ?_
  refine v_aload_n X 0 dX7_boot_0 rfl rfl ?_
  refine v_getI (i := iSM) (k := 2) X (lt_SM ) (sh_SM ) rfl in_SM (by decide) wf_SM_25 rfl (fun _ => rfl) dX7_boot_1 ?_
  refine v_suff (pc2 := 22) (lv2 := [(0, .ref (rh iSM))]) (st2 := [.int ((if (σ iSM 2) = 0 then (if (σ iTT 2) ≤ 0 then 0 else 1) else 0) : Int32)]) (σ2 := σ) ?_ (fun J4 => ?_)
  rotate_left
  ·
    refine v_if_ne X 21 dX7_boot_4 (by decide) (fun h4 => ?_) (fun h4 => ?_)
    ·
      refine v_iconst (v := 0) X dX7_boot_21 (by decide) ?_
      have e9 : (((if (σ iSM 2) = 0 then (if (σ iTT 2) ≤ 0 then 0 else 1) else 0) : Int32) : Int32) = 0 := by simp only [if_neg h4]
      rw [e9] at J4
      exact J4
    ·
      refine v_aload_n X 0 dX7_boot_7 rfl rfl ?_
      refine v_getR (j := iTT) (i := iSM) (k := 1) X (lt_SM ) (sh_SM ) rfl in_SM (by decide) wf_SM_21 rfl (fun _ => rfl) dX7_boot_8 ?_
      refine v_getI (i := iTT) (k := 2) X (lt_TT ) (sh_TT ) rfl in_TT (by decide) wf_SM_79 rfl (fun _ => rfl) dX7_boot_11 ?_
      refine v_if_le X 21 dX7_boot_14 (by decide) (fun h14 => ?_) (fun h14 => ?_)
      ·
        refine v_iconst (v := 0) X dX7_boot_21 (by decide) ?_
        have e9 : (((if (σ iSM 2) = 0 then (if (σ iTT 2) ≤ 0 then 0 else 1) else 0) : Int32) : Int32) = 0 := by simp only [if_pos h4, if_pos h14]
        rw [e9] at J4
        exact J4
      ·
        refine v_iconst (v := 1) X dX7_boot_17 (by decide) ?_
        refine v_goto (tgt := 22) X dX7_boot_18 (by decide) ?_
        have e9 : (((if (σ iSM 2) = 0 then (if (σ iTT 2) ≤ 0 then 0 else 1) else 0) : Int32) : Int32) = 1 := by simp only [if_pos h4, if_neg h14]
        rw [e9] at J4
        exact J4
  refine v_callS_CFV (rest := []) X [.int ((if (σ iSM 2) = 0 then (if (σ iTT 2) ≤ 0 then 0 else 1) else 0) : Int32)] (c_SM_refuseNowUnless hlt ((if (σ iSM 2) = 0 then (if (σ iTT 2) ≤ 0 then 0 else 1) else 0) : Int32) σ ) mf_SM_refuseNowUnless ws_SM_refuseNowUnless wm_SM_48 rfl ⟨by decide, by decide⟩ (Nat.le_of_ble_eq_true rfl) ⟨by decide, by decide⟩ dX7_boot_22 (fun h22 => ?_) (fun h22 => ?_)
  ·
    have e9 : f_SM_boot σ = (f_SM_refuseNowUnless ((if (σ iSM 2) = 0 then (if (σ iTT 2) ≤ 0 then 0 else 1) else 0) : Int32), 0, σ) := by simp only [f_SM_boot, if_neg h22]
    exact hthr _ _ _ _ _ _ _ e9 h22 (by decide) (by decide)
  refine v_aload_n X 0 dX7_boot_25 rfl rfl ?_
  refine v_aload_n X 0 dX7_boot_26 rfl rfl ?_
  refine v_getR (j := iMA) (i := iSM) (k := 0) X (lt_SM ) (sh_SM ) rfl in_SM (by decide) wf_SM_12 rfl (fun _ => rfl) dX7_boot_27 ?_
  refine v_callV_CI (rest := [.ref (rh iSM)]) X [] (c_MA_start σ hI) mf_MA_start wi_MA_start wl_MA_start (lt_MA ) (sh_MA ) rfl wm_SM_102 rfl ⟨by decide, by decide⟩ (Nat.le_of_ble_eq_true rfl) ⟨by decide, by decide⟩ dX7_boot_30 ?_
  generalize hg30 : (f_MA_start σ) = g30
  have hI30 : Ic g30.2 := by rw [← hg30]; exact (I_MA_start  hI)
  refine v_put (i := iSM) (k := 4) (x := g30.1) (ty := .int) X (lt_SM ) (sh_SM ) rfl in_SM (by decide) tyX7 tyX7_ok nX7 wf_SM_33 rfl rfl rfl rfl rfl (fun _ => Nat.le_of_ble_eq_true rfl) (fun _ _ => rfl) dX7_boot_33 ?_
  generalize hg33 : (up g30.2 iSM 4 g30.1) = g33
  have hI33 : Ic g33 := by rw [← hg33]; exact (Ic.upSM hI30)
  refine v_aload_n X 0 dX7_boot_36 rfl rfl ?_
  refine v_getR (j := iTT) (i := iSM) (k := 1) X (lt_SM ) (sh_SM ) rfl in_SM (by decide) wf_SM_21 rfl (fun _ => rfl) dX7_boot_37 ?_
  refine v_callV_CV (rest := []) X [] (c_TT_start g33 ) mf_TT_start wi_TT_start wl_TT_start (lt_TT ) (sh_TT ) rfl wm_SM_106 rfl ⟨by decide, by decide⟩ (Nat.le_of_ble_eq_true rfl) ⟨by decide, by decide⟩ dX7_boot_40 ?_
  generalize hg40 : (f_TT_start g33) = g40
  have hI40 : Ic g40 := by rw [← hg40]; exact (I_TT_start  hI33)
  refine v_aload_n X 0 dX7_boot_43 rfl rfl ?_
  refine v_iconst (v := 1) X dX7_boot_44 (by decide) ?_
  refine v_put (i := iSM) (k := 2) (x := 1) (ty := .boolean) X (lt_SM ) (sh_SM ) rfl in_SM (by decide) tyX7 tyX7_ok nX7 wf_SM_25 rfl rfl rfl (zN (Or.inr rfl)) (zF (Or.inr rfl)) (fun _ => Nat.le_of_ble_eq_true rfl) (fun _ _ => rfl) dX7_boot_45 ?_
  generalize hg45 : (up g40 iSM 2 1) = g45
  have hI45 : Ic g45 := by rw [← hg45]; exact (Ic.upSM hI40)
  refine v_aload_n X 0 dX7_boot_48 rfl rfl ?_
  refine v_dup X dX7_boot_49 rfl ?_
  refine v_getI (i := iSM) (k := 3) X (lt_SM ) (sh_SM ) rfl in_SM (by decide) wf_SM_29 rfl (fun _ => rfl) dX7_boot_50 ?_
  refine v_iconst (v := 1) X dX7_boot_53 (by decide) ?_
  refine v_iadd X dX7_boot_54 ?_
  refine v_put (i := iSM) (k := 3) (x := ((g45 iSM 3) + 1)) (ty := .int) X (lt_SM ) (sh_SM ) rfl in_SM (by decide) tyX7 tyX7_ok nX7 wf_SM_29 rfl rfl rfl rfl rfl (fun _ => Nat.le_of_ble_eq_true rfl) (fun _ _ => rfl) dX7_boot_55 ?_
  generalize hg55 : (up g45 iSM 3 ((g45 iSM 3) + 1)) = g55
  have hI55 : Ic g55 := by rw [← hg55]; exact (Ic.upSM hI45)
  refine v_aload_n X 0 dX7_boot_58 rfl rfl ?_
  refine v_getI (i := iSM) (k := 4) X (lt_SM ) (sh_SM ) rfl in_SM (by decide) wf_SM_33 rfl (fun _ => rfl) dX7_boot_59 ?_
  have e9 : f_SM_boot σ = (0, (g55 iSM 4), g55) := by subst hg30; subst hg33; subst hg40; subst hg45; subst hg55; simp only [f_SM_boot, if_pos h22]
  exact hend _ _ _ _ _ _ e9 (by decide) (by decide) dX7_boot_62
def f_SM_reset (σ : St) : Int32 × Int32 × St :=
  (if f_SM_refuseNowUnless (σ iSM 2) = 0 then (0, 0, (up σ iSM 2 0)) else (f_SM_refuseNowUnless (σ iSM 2), 0, σ))
set_option maxHeartbeats 4000000 in
set_option maxRecDepth 100000 in
theorem c_SM_reset (hlt : l.stackTraces = false)  (σ : St) (hI : Ic σ) : CFV l D (tyL cA) rh (rcW rh cA) NW yX7_reset cX7_reset 1 7 3 18 [.ref (rh iSM)] σ (f_SM_reset σ) := by
  refine CFV.of rfl (Nat.le_of_ble_eq_true rfl) hlt ?_
  intro p9 e s m args below meth c A Q X hend hthr hnew
  refine v_lv (lv' := [(0, .ref (rh iSM))]) [0] rfl ?_
  refine v_aload_n X 0 dX7_reset_0 rfl rfl ?_
  refine v_getI (i := iSM) (k := 2) X (lt_SM ) (sh_SM ) rfl in_SM (by decide) wf_SM_25 rfl (fun _ => rfl) dX7_reset_1 ?_
  refine v_callS_CFV (rest := []) X [.int (σ iSM 2)] (c_SM_refuseNowUnless hlt (σ iSM 2) σ ) mf_SM_refuseNowUnless ws_SM_refuseNowUnless wm_SM_48 rfl ⟨by decide, by decide⟩ (Nat.le_of_ble_eq_true rfl) ⟨by decide, by decide⟩ dX7_reset_4 (fun h4 => ?_) (fun h4 => ?_)
  ·
    have e9 : f_SM_reset σ = (f_SM_refuseNowUnless (σ iSM 2), 0, σ) := by simp only [f_SM_reset, if_neg h4]
    exact hthr _ _ _ _ _ _ _ e9 h4 (by decide) (by decide)
  refine v_aload_n X 0 dX7_reset_7 rfl rfl ?_
  refine v_iconst (v := 0) X dX7_reset_8 (by decide) ?_
  refine v_put (i := iSM) (k := 2) (x := 0) (ty := .boolean) X (lt_SM ) (sh_SM ) rfl in_SM (by decide) tyX7 tyX7_ok nX7 wf_SM_25 rfl rfl rfl (zN (Or.inl rfl)) (zF (Or.inl rfl)) (fun _ => Nat.le_of_ble_eq_true rfl) (fun _ _ => rfl) dX7_reset_9 ?_
  generalize hg9 : (up σ iSM 2 0) = g9
  have hI9 : Ic g9 := by rw [← hg9]; exact (Ic.upSM hI)
  have e9 : f_SM_reset σ = (0, 0, g9) := by subst hg9; simp only [f_SM_reset, if_pos h4]
  exact hend _ _ _ _ _ e9 (by decide) (by decide) dX7_reset_12
def lp_SM_run_22 (xa : Int32) : Nat → Int32 → Int32 → St → Int32 × Int32 × St
  | 0, _, _, σ => (0, 0, σ)
  | k9 + 1, b2, i3, σ => (if xa ≤ i3 then (0, b2, σ) else (if (f_SM_tick σ).1 = 0 then (lp_SM_run_22 xa k9 b2 (i3 + 1) (f_SM_tick σ).2) else (lp_SM_run_22 xa k9 (b2 + 1) (i3 + 1) (f_SM_tick σ).2)))
set_option maxHeartbeats 4000000 in
set_option maxRecDepth 100000 in
theorem lc_SM_run_22 (xa : Int32) {p9 : Program} {e : Env} {s : State} {m : MethodId} {args : Array Value} {below : List Frame} {meth : Method} {c : Code} {A : Nat → Prop} {Q : State → Prop} (X : Cx p9 s m args meth c D (tyL cA) A cX7_run 4 yX7_run.cls) : ∀ (k9 : Nat) (b2 : Int32) (i3 : Int32) (σ : St), (hI : Ic σ) → (hi : 0 ≤ i3.toInt ∧ i3.toInt ≤ xa.toInt) → (xa.toInt - i3.toInt < (k9 : Int)) → (∀ (pc : Nat) (lv : List (Nat × Value)) (cells slots : Nat) (x : Int32) (s' : St), lp_SM_run_22 xa k9 b2 i3 σ = (0, x, s') → cells ≤ 3 → slots ≤ 18 → decode cX7_run pc = .ok (.ireturn, 1) → Vz p9 l e (Rq 7 3 18) s m args below meth c D A 4 rh (rcW rh cA) NW cells slots Q pc lv [.int x] s') → Vz p9 l e (Rq 7 3 18) s m args below meth c D A 4 rh (rcW rh cA) NW (0 + 1 + 1) (0 + 6 + 6) Q 22 [(0, .ref (rh iSM)), (1, .int xa), (2, .int b2), (3, .int i3)] [] σ := by
  intro k9
  induction k9 with
  | zero =>
    intro b2 i3 σ hI hi hmu hend
    exact absurd hmu (by omega)
  | succ k9 ih =>
    intro b2 i3 σ hI hi hmu hend
    refine v_iload_n X 3 dX7_run_22 rfl rfl ?_
    refine v_iload_n X 1 dX7_run_23 rfl rfl ?_
    refine v_icmp_ge X 43 dX7_run_24 (by decide) (fun h24 => ?_) (fun h24 => ?_)
    ·
      refine v_iload_n X 2 dX7_run_43 rfl rfl ?_
      have e9 : lp_SM_run_22 xa (k9 + 1) b2 i3 σ = (0, b2, σ) := by simp only [lp_SM_run_22, if_pos h24]
      exact hend _ _ _ _ _ _ e9 (by decide) (by decide) dX7_run_44
    ·
      refine v_aload_n X 0 dX7_run_27 rfl rfl ?_
      refine v_callV_CI (rest := []) X [] (c_SM_tick σ hI) mf_SM_tick wi_SM_tick wl_SM_tick (lt_SM ) (sh_SM ) rfl wm_SM_108 rfl ⟨by decide, by decide⟩ (Nat.le_of_ble_eq_true rfl) ⟨by decide, by decide⟩ dX7_run_28 ?_
      generalize hg28 : (f_SM_tick σ) = g28
      have hI28 : Ic g28.2 := by rw [← hg28]; exact (I_SM_tick  hI)
      refine v_if_eq X 37 dX7_run_31 (by decide) (fun h31 => ?_) (fun h31 => ?_)
      ·
        refine v_iinc (v := (i3 + 1)) (lv' := [(3, .int (i3 + 1)), (0, .ref (rh iSM)), (1, .int xa), (2, .int b2)]) X 3 dX7_run_37 rfl rfl (by decide) rfl ?_
        refine v_goto (tgt := 22) X dX7_run_40 (by decide) ?_
        have e9 : lp_SM_run_22 xa (k9 + 1) b2 i3 σ = lp_SM_run_22 xa k9 b2 (i3 + 1) g28.2 := by subst hg28; simp only [lp_SM_run_22, if_neg h24, if_pos h31]
        rw [e9] at hend
        refine v_lv (lv' := [(0, .ref (rh iSM)), (1, .int xa), (2, .int b2), (3, .int (i3 + 1))]) [1, 2, 3, 0] rfl ?_
        exact ih b2 (i3 + 1) g28.2 hI28 ⟨by have h9 := i_succ h24; omega, by have h9 := i_succ h24; have h8 := h24; rw [ile] at h8; omega⟩ (by have h9 := i_succ h24; omega) hend
      ·
        refine v_iinc (v := (b2 + 1)) (lv' := [(2, .int (b2 + 1)), (0, .ref (rh iSM)), (1, .int xa), (3, .int i3)]) X 2 dX7_run_34 rfl rfl (by decide) rfl ?_
        refine v_iinc (v := (i3 + 1)) (lv' := [(3, .int (i3 + 1)), (2, .int (b2 + 1)), (0, .ref (rh iSM)), (1, .int xa)]) X 3 dX7_run_37 rfl rfl (by decide) rfl ?_
        refine v_goto (tgt := 22) X dX7_run_40 (by decide) ?_
        have e9 : lp_SM_run_22 xa (k9 + 1) b2 i3 σ = lp_SM_run_22 xa k9 (b2 + 1) (i3 + 1) g28.2 := by subst hg28; simp only [lp_SM_run_22, if_neg h24, if_neg h31]
        rw [e9] at hend
        refine v_lv (lv' := [(0, .ref (rh iSM)), (1, .int xa), (2, .int (b2 + 1)), (3, .int (i3 + 1))]) [2, 3, 1, 0] rfl ?_
        exact ih (b2 + 1) (i3 + 1) g28.2 hI28 ⟨by have h9 := i_succ h24; omega, by have h9 := i_succ h24; have h8 := h24; rw [ile] at h8; omega⟩ (by have h9 := i_succ h24; omega) hend
def f_SM_run (xa : Int32) (σ : St) : Int32 × Int32 × St :=
  (if f_SM_refuseBadUnless (f_SM_within xa 1 400) = 0 then (if f_SM_refuseNowUnless (σ iSM 2) = 0 then (lp_SM_run_22 xa 401 0 0 σ) else (f_SM_refuseNowUnless (σ iSM 2), 0, σ)) else (f_SM_refuseBadUnless (f_SM_within xa 1 400), 0, σ))
set_option maxHeartbeats 4000000 in
set_option maxRecDepth 100000 in
theorem c_SM_run (hlt : l.stackTraces = false) (xa : Int32) (σ : St) (hI : Ic σ) : CFI l D (tyL cA) rh (rcW rh cA) NW yX7_run cX7_run 4 7 3 18 [.ref (rh iSM), .int xa] σ (f_SM_run xa σ) := by
  refine CFI.of rfl (Nat.le_of_ble_eq_true rfl) hlt ?_
  intro p9 e s m args below meth c A Q X hend hthr hnew
  refine v_lv (lv' := [(0, .ref (rh iSM)), (1, .int xa)]) [0, 1] rfl ?_
  refine v_iload_n X 1 dX7_run_0 rfl rfl ?_
  refine v_iconst (v := 1) X dX7_run_1 (by decide) ?_
  refine v_sipush (v := 400) X dX7_run_2 (by decide) ?_
  refine v_callS_CI (rest := []) X [.int xa, .int 1, .int 400] (c_SM_within xa 1 400 σ ) mf_SM_within ws_SM_within wm_SM_40 rfl ⟨by decide, by decide⟩ (Nat.le_of_ble_eq_true rfl) ⟨by decide, by decide⟩ dX7_run_5 ?_
  refine v_callS_CFV (rest := []) X [.int (f_SM_within xa 1 400)] (c_SM_refuseBadUnless hlt (f_SM_within xa 1 400) σ ) mf_SM_refuseBadUnless ws_SM_refuseBadUnless wm_SM_44 rfl ⟨by decide, by decide⟩ (Nat.le_of_ble_eq_true rfl) ⟨by decide, by decide⟩ dX7_run_8 (fun h8 => ?_) (fun h8 => ?_)
  ·
    have e9 : f_SM_run xa σ = (f_SM_refuseBadUnless (f_SM_within xa 1 400), 0, σ) := by simp only [f_SM_run, if_neg h8]
    exact hthr _ _ _ _ _ _ _ e9 h8 (by decide) (by decide)
  refine v_aload_n X 0 dX7_run_11 rfl rfl ?_
  refine v_getI (i := iSM) (k := 2) X (lt_SM ) (sh_SM ) rfl in_SM (by decide) wf_SM_25 rfl (fun _ => rfl) dX7_run_12 ?_
  refine v_callS_CFV (rest := []) X [.int (σ iSM 2)] (c_SM_refuseNowUnless hlt (σ iSM 2) σ ) mf_SM_refuseNowUnless ws_SM_refuseNowUnless wm_SM_48 rfl ⟨by decide, by decide⟩ (Nat.le_of_ble_eq_true rfl) ⟨by decide, by decide⟩ dX7_run_15 (fun h15 => ?_) (fun h15 => ?_)
  ·
    have e9 : f_SM_run xa σ = (f_SM_refuseNowUnless (σ iSM 2), 0, σ) := by simp only [f_SM_run, if_pos h8, if_neg h15]
    exact hthr _ _ _ _ _ _ _ e9 h15 (by decide) (by decide)
  refine v_iconst (v := 0) X dX7_run_18 (by decide) ?_
  refine v_istore_n (lv' := [(2, .int 0), (0, .ref (rh iSM)), (1, .int xa)]) X dX7_run_19 rfl (by decide) rfl ?_
  refine v_iconst (v := 0) X dX7_run_20 (by decide) ?_
  refine v_istore_n (lv' := [(3, .int 0), (2, .int 0), (0, .ref (rh iSM)), (1, .int xa)]) X dX7_run_21 rfl (by decide) rfl ?_
  have e9 : f_SM_run xa σ = lp_SM_run_22 xa 401 0 0 σ := by simp only [f_SM_run, if_pos h8, if_pos h15]
  rw [e9] at hend
  refine v_lv (lv' := [(0, .ref (rh iSM)), (1, .int xa), (2, .int 0), (3, .int 0)]) [2, 3, 1, 0] rfl ?_
  exact lc_SM_run_22 xa  X 401 0 0 σ hI ⟨by decide, by have h9 := (run_b h8).1; rw [t0i]; omega⟩ (by have h9 := (run_b h8).2; rw [t0i]; omega) hend
def f_SM_quote (xa : Int32) (σ : St) : Int32 × Int32 × St :=
  (if f_SM_refuseNowUnless (σ iSM 2) = 0 then (0, (f_SM_mix (f_SM_mix (σ iMA 0) xa) (σ iSM 4)), σ) else (f_SM_refuseNowUnless (σ iSM 2), 0, σ))
set_option maxHeartbeats 4000000 in
set_option maxRecDepth 100000 in
theorem c_SM_quote (hlt : l.stackTraces = false) (xa : Int32) (σ : St) (hI : Ic σ) : CFI l D (tyL cA) rh (rcW rh cA) NW yX7_quote cX7_quote 2 7 3 18 [.ref (rh iSM), .int xa] σ (f_SM_quote xa σ) := by
  refine CFI.of rfl (Nat.le_of_ble_eq_true rfl) hlt ?_
  intro p9 e s m args below meth c A Q X hend hthr hnew
  refine v_lv (lv' := [(0, .ref (rh iSM)), (1, .int xa)]) [0, 1] rfl ?_
  refine v_aload_n X 0 dX7_quote_0 rfl rfl ?_
  refine v_getI (i := iSM) (k := 2) X (lt_SM ) (sh_SM ) rfl in_SM (by decide) wf_SM_25 rfl (fun _ => rfl) dX7_quote_1 ?_
  refine v_callS_CFV (rest := []) X [.int (σ iSM 2)] (c_SM_refuseNowUnless hlt (σ iSM 2) σ ) mf_SM_refuseNowUnless ws_SM_refuseNowUnless wm_SM_48 rfl ⟨by decide, by decide⟩ (Nat.le_of_ble_eq_true rfl) ⟨by decide, by decide⟩ dX7_quote_4 (fun h4 => ?_) (fun h4 => ?_)
  ·
    have e9 : f_SM_quote xa σ = (f_SM_refuseNowUnless (σ iSM 2), 0, σ) := by simp only [f_SM_quote, if_neg h4]
    exact hthr _ _ _ _ _ _ _ e9 h4 (by decide) (by decide)
  refine v_aload_n X 0 dX7_quote_7 rfl rfl ?_
  refine v_getR (j := iMA) (i := iSM) (k := 0) X (lt_SM ) (sh_SM ) rfl in_SM (by decide) wf_SM_12 rfl (fun _ => rfl) dX7_quote_8 ?_
  refine v_getI (i := iMA) (k := 0) X (lt_MA ) (sh_MA ) rfl in_MA (by decide) wf_SM_112 rfl (fun _ => rfl) dX7_quote_11 ?_
  refine v_iload_n X 1 dX7_quote_14 rfl rfl ?_
  refine v_callS_CI (rest := []) X [.int (σ iMA 0), .int xa] (c_SM_mix (σ iMA 0) xa σ ) mf_SM_mix ws_SM_mix wm_SM_115 rfl ⟨by decide, by decide⟩ (Nat.le_of_ble_eq_true rfl) ⟨by decide, by decide⟩ dX7_quote_15 ?_
  refine v_aload_n X 0 dX7_quote_18 rfl rfl ?_
  refine v_getI (i := iSM) (k := 4) X (lt_SM ) (sh_SM ) rfl in_SM (by decide) wf_SM_33 rfl (fun _ => rfl) dX7_quote_19 ?_
  refine v_callS_CI (rest := []) X [.int (f_SM_mix (σ iMA 0) xa), .int (σ iSM 4)] (c_SM_mix (f_SM_mix (σ iMA 0) xa) (σ iSM 4) σ ) mf_SM_mix ws_SM_mix wm_SM_115 rfl ⟨by decide, by decide⟩ (Nat.le_of_ble_eq_true rfl) ⟨by decide, by decide⟩ dX7_quote_22 ?_
  have e9 : f_SM_quote xa σ = (0, (f_SM_mix (f_SM_mix (σ iMA 0) xa) (σ iSM 4)), σ) := by simp only [f_SM_quote, if_pos h4]
  exact hend _ _ _ _ _ _ e9 (by decide) (by decide) dX7_quote_25
def f_SM_register (xa : Int32) (xb : Int32) (σ : St) : Int32 × Int32 × St :=
  (if f_SM_refuseBadUnless ((if (f_SM_isPartition xa) = 0 then 0 else (if (f_SM_within xb 0 16) = 0 then 0 else 1)) : Int32) = 0 then (if f_SM_refuseNowUnless (σ iSM 2) = 0 then (0, ((if xb = 16 then (σ (iP (xa).toNatClampNeg) 5) else (f_PT_get (xa).toNatClampNeg xb σ)) : Int32), σ) else (f_SM_refuseNowUnless (σ iSM 2), 0, σ)) else (f_SM_refuseBadUnless ((if (f_SM_isPartition xa) = 0 then 0 else (if (f_SM_within xb 0 16) = 0 then 0 else 1)) : Int32), 0, σ))
set_option maxHeartbeats 4000000 in
set_option maxRecDepth 100000 in
theorem c_SM_register (hlt : l.stackTraces = false) (xa : Int32) (xb : Int32) (σ : St) (hI : Ic σ) : CFI l D (tyL cA) rh (rcW rh cA) NW yX7_register cX7_register 4 7 3 18 [.ref (rh iSM), .int xa, .int xb] σ (f_SM_register xa xb σ) := by
  refine CFI.of rfl (Nat.le_of_ble_eq_true rfl) hlt ?_
  intro p9 e s m args below meth c A Q X hend hthr hnew
  refine v_lv (lv' := [(0, .ref (rh iSM)), (1, .int xa), (2, .int xb)]) [0, 1, 2] rfl ?_
  refine v_iload_n X 1 dX7_register_0 rfl rfl ?_
  refine v_callS_CI (rest := []) X [.int xa] (c_SM_isPartition xa σ ) mf_SM_isPartition ws_SM_isPartition wm_SM_36 rfl ⟨by decide, by decide⟩ (Nat.le_of_ble_eq_true rfl) ⟨by decide, by decide⟩ dX7_register_1 ?_
  refine v_suff (pc2 := 22) (lv2 := [(0, .ref (rh iSM)), (1, .int xa), (2, .int xb)]) (st2 := [.int ((if (f_SM_isPartition xa) = 0 then 0 else (if (f_SM_within xb 0 16) = 0 then 0 else 1)) : Int32)]) (σ2 := σ) ?_ (fun J4 => ?_)
  rotate_left
  ·
    refine v_if_eq X 21 dX7_register_4 (by decide) (fun h4 => ?_) (fun h4 => ?_)
    ·
      refine v_iconst (v := 0) X dX7_register_21 (by decide) ?_
      have e9 : (((if (f_SM_isPartition xa) = 0 then 0 else (if (f_SM_within xb 0 16) = 0 then 0 else 1)) : Int32) : Int32) = 0 := by simp only [if_pos h4]
      rw [e9] at J4
      exact J4
    ·
      refine v_iload_n X 2 dX7_register_7 rfl rfl ?_
      refine v_iconst (v := 0) X dX7_register_8 (by decide) ?_
      refine v_bipush (v := 16) X dX7_register_9 (by decide) ?_
      refine v_callS_CI (rest := []) X [.int xb, .int 0, .int 16] (c_SM_within xb 0 16 σ ) mf_SM_within ws_SM_within wm_SM_40 rfl ⟨by decide, by decide⟩ (Nat.le_of_ble_eq_true rfl) ⟨by decide, by decide⟩ dX7_register_11 ?_
      refine v_if_eq X 21 dX7_register_14 (by decide) (fun h14 => ?_) (fun h14 => ?_)
      ·
        refine v_iconst (v := 0) X dX7_register_21 (by decide) ?_
        have e9 : (((if (f_SM_isPartition xa) = 0 then 0 else (if (f_SM_within xb 0 16) = 0 then 0 else 1)) : Int32) : Int32) = 0 := by simp only [if_neg h4, if_pos h14]
        rw [e9] at J4
        exact J4
      ·
        refine v_iconst (v := 1) X dX7_register_17 (by decide) ?_
        refine v_goto (tgt := 22) X dX7_register_18 (by decide) ?_
        have e9 : (((if (f_SM_isPartition xa) = 0 then 0 else (if (f_SM_within xb 0 16) = 0 then 0 else 1)) : Int32) : Int32) = 1 := by simp only [if_neg h4, if_neg h14]
        rw [e9] at J4
        exact J4
  refine v_callS_CFV (rest := []) X [.int ((if (f_SM_isPartition xa) = 0 then 0 else (if (f_SM_within xb 0 16) = 0 then 0 else 1)) : Int32)] (c_SM_refuseBadUnless hlt ((if (f_SM_isPartition xa) = 0 then 0 else (if (f_SM_within xb 0 16) = 0 then 0 else 1)) : Int32) σ ) mf_SM_refuseBadUnless ws_SM_refuseBadUnless wm_SM_44 rfl ⟨by decide, by decide⟩ (Nat.le_of_ble_eq_true rfl) ⟨by decide, by decide⟩ dX7_register_22 (fun h22 => ?_) (fun h22 => ?_)
  ·
    have e9 : f_SM_register xa xb σ = (f_SM_refuseBadUnless ((if (f_SM_isPartition xa) = 0 then 0 else (if (f_SM_within xb 0 16) = 0 then 0 else 1)) : Int32), 0, σ) := by simp only [f_SM_register, if_neg h22]
    exact hthr _ _ _ _ _ _ _ e9 h22 (by decide) (by decide)
  refine v_aload_n X 0 dX7_register_25 rfl rfl ?_
  refine v_getI (i := iSM) (k := 2) X (lt_SM ) (sh_SM ) rfl in_SM (by decide) wf_SM_25 rfl (fun _ => rfl) dX7_register_26 ?_
  refine v_callS_CFV (rest := []) X [.int (σ iSM 2)] (c_SM_refuseNowUnless hlt (σ iSM 2) σ ) mf_SM_refuseNowUnless ws_SM_refuseNowUnless wm_SM_48 rfl ⟨by decide, by decide⟩ (Nat.le_of_ble_eq_true rfl) ⟨by decide, by decide⟩ dX7_register_29 (fun h29 => ?_) (fun h29 => ?_)
  ·
    have e9 : f_SM_register xa xb σ = (f_SM_refuseNowUnless (σ iSM 2), 0, σ) := by simp only [f_SM_register, if_pos h22, if_neg h29]
    exact hthr _ _ _ _ _ _ _ e9 h29 (by decide) (by decide)
  refine v_aload_n X 0 dX7_register_32 rfl rfl ?_
  refine v_getR (j := iMA) (i := iSM) (k := 0) X (lt_SM ) (sh_SM ) rfl in_SM (by decide) wf_SM_12 rfl (fun _ => rfl) dX7_register_33 ?_
  refine v_getR (j := iAP) (i := iMA) (k := 2) X (lt_MA ) (sh_MA ) rfl in_MA (by decide) wf_SM_57 rfl (fun _ => rfl) dX7_register_36 ?_
  refine v_iload_n X 1 dX7_register_39 rfl rfl ?_
  have hv40 : vp_in xa 4 := (pt_in (ifnz (rb_nz h22)))
  refine v_aald (i := iAP) (t0 := 1) (g := iP) X (lt_APT ) (sh_APT ) rfl hv40 dX7_register_40 ?_
  refine v_astore_n (lv' := [(3, .ref (rh (iP (xa).toNatClampNeg))), (0, .ref (rh iSM)), (1, .int xa), (2, .int xb)]) X dX7_register_41 rfl (by decide) rfl ?_
  refine v_iload_n X 3 dX7_register_42 rfl rfl ?_
  refine v_bipush (v := 16) X dX7_register_43 (by decide) ?_
  refine v_suff (pc2 := 60) (lv2 := [(3, .ref (rh (iP (xa).toNatClampNeg))), (0, .ref (rh iSM)), (1, .int xa), (2, .int xb)]) (st2 := [.int ((if xb = 16 then (σ (iP (xa).toNatClampNeg) 5) else (f_PT_get (xa).toNatClampNeg xb σ)) : Int32)]) (σ2 := σ) ?_ (fun J45 => ?_)
  rotate_left
  ·
    refine v_icmp_ne X 55 dX7_register_45 (by decide) (fun h45 => ?_) (fun h45 => ?_)
    ·
      refine v_aload_n X 0 dX7_register_55 rfl rfl ?_
      refine v_iload_n X 3 dX7_register_56 rfl rfl ?_
      refine v_callV_CI (rest := []) X [.int xb] (c_PT_get (vin_lt hv40) xb σ ) mf_PT_get wi_PT_get wl_PT_get (lt_PT (vin_lt hv40)) (sh_PT (vin_lt hv40)) rfl wm_SM_122 rfl ⟨by decide, by decide⟩ (Nat.le_of_ble_eq_true rfl) ⟨by decide, by decide⟩ dX7_register_57 ?_
      have e9 : (((if xb = 16 then (σ (iP (xa).toNatClampNeg) 5) else (f_PT_get (xa).toNatClampNeg xb σ)) : Int32) : Int32) = (f_PT_get (xa).toNatClampNeg xb σ) := by simp only [if_neg h45]
      rw [e9] at J45
      exact J45
    ·
      refine v_aload_n X 0 dX7_register_48 rfl rfl ?_
      refine v_getI (i := (iP (xa).toNatClampNeg)) (k := 5) X (lt_PT (vin_lt hv40)) (sh_PT (vin_lt hv40)) rfl in_PT (by decide) wf_SM_119 rfl (fun _ => rfl) dX7_register_49 ?_
      refine v_goto (tgt := 60) X dX7_register_52 (by decide) ?_
      have e9 : (((if xb = 16 then (σ (iP (xa).toNatClampNeg) 5) else (f_PT_get (xa).toNatClampNeg xb σ)) : Int32) : Int32) = (σ (iP (xa).toNatClampNeg) 5) := by simp only [if_pos h45]
      rw [e9] at J45
      exact J45
  have e9 : f_SM_register xa xb σ = (0, ((if xb = 16 then (σ (iP (xa).toNatClampNeg) 5) else (f_PT_get (xa).toNatClampNeg xb σ)) : Int32), σ) := by simp only [f_SM_register, if_pos h22, if_pos h29]
  exact hend _ _ _ _ _ _ e9 (by decide) (by decide) dX7_register_60
def f_SM_memory (xa : Int32) (σ : St) : Int32 × Int32 × St :=
  (if f_SM_refuseBadUnless (f_SM_isWord xa) = 0 then (0, (σ iWO (xa).toNatClampNeg), σ) else (f_SM_refuseBadUnless (f_SM_isWord xa), 0, σ))
set_option maxHeartbeats 4000000 in
set_option maxRecDepth 100000 in
theorem c_SM_memory (hlt : l.stackTraces = false) (xa : Int32) (σ : St) (hI : Ic σ) : CFI l D (tyL cA) rh (rcW rh cA) NW yX7_memory cX7_memory 2 7 3 18 [.ref (rh iSM), .int xa] σ (f_SM_memory xa σ) := by
  refine CFI.of rfl (Nat.le_of_ble_eq_true rfl) hlt ?_
  intro p9 e s m args below meth c A Q X hend hthr hnew
  refine v_lv (lv' := [(0, .ref (rh iSM)), (1, .int xa)]) [0, 1] rfl ?_
  refine v_iload_n X 1 dX7_memory_0 rfl rfl ?_
  refine v_callS_CI (rest := []) X [.int xa] (c_SM_isWord xa σ ) mf_SM_isWord ws_SM_isWord wm_SM_69 rfl ⟨by decide, by decide⟩ (Nat.le_of_ble_eq_true rfl) ⟨by decide, by decide⟩ dX7_memory_1 ?_
  refine v_callS_CFV (rest := []) X [.int (f_SM_isWord xa)] (c_SM_refuseBadUnless hlt (f_SM_isWord xa) σ ) mf_SM_refuseBadUnless ws_SM_refuseBadUnless wm_SM_44 rfl ⟨by decide, by decide⟩ (Nat.le_of_ble_eq_true rfl) ⟨by decide, by decide⟩ dX7_memory_4 (fun h4 => ?_) (fun h4 => ?_)
  ·
    have e9 : f_SM_memory xa σ = (f_SM_refuseBadUnless (f_SM_isWord xa), 0, σ) := by simp only [f_SM_memory, if_neg h4]
    exact hthr _ _ _ _ _ _ _ e9 h4 (by decide) (by decide)
  refine v_aload_n X 0 dX7_memory_7 rfl rfl ?_
  refine v_getR (j := iMA) (i := iSM) (k := 0) X (lt_SM ) (sh_SM ) rfl in_SM (by decide) wf_SM_12 rfl (fun _ => rfl) dX7_memory_8 ?_
  refine v_getR (j := iWO) (i := iMA) (k := 1) X (lt_MA ) (sh_MA ) rfl in_MA (by decide) wf_SM_72 rfl (fun _ => rfl) dX7_memory_11 ?_
  refine v_iload_n X 1 dX7_memory_14 rfl rfl ?_
  have hv15 : vp_in xa 96 := (wo_in (rb_nz h4))
  refine v_iald (i := iWO) (t0 := 0) X (lt_WO ) (sh_WO ) rfl hv15 dX7_memory_15 ?_
  have e9 : f_SM_memory xa σ = (0, (σ iWO (xa).toNatClampNeg), σ) := by simp only [f_SM_memory, if_pos h4]
  exact hend _ _ _ _ _ _ e9 (by decide) (by decide) dX7_memory_16
def f_SM_told (xa : Int32) (xb : Int32) (σ : St) : Int32 × Int32 × St :=
  (if f_SM_refuseBadUnless ((if (f_SM_isPartition xa) = 0 then 0 else (if (f_SM_within xb 0 8) = 0 then 0 else 1)) : Int32) = 0 then (if xb = 6 then (0, (σ (iP (xa).toNatClampNeg) 3), σ) else (if xb = 7 then (0, (σ (iP (xa).toNatClampNeg) 1), σ) else (if xb = 8 then (0, (σ (iP (xa).toNatClampNeg) 2), σ) else (0, ((if (σ iSM 2) = 0 then 0 else (f_PT_sinceBooted (xa).toNatClampNeg xb σ)) : Int32), σ)))) else (f_SM_refuseBadUnless ((if (f_SM_isPartition xa) = 0 then 0 else (if (f_SM_within xb 0 8) = 0 then 0 else 1)) : Int32), 0, σ))
set_option maxHeartbeats 4000000 in
set_option maxRecDepth 100000 in
theorem c_SM_told (hlt : l.stackTraces = false) (xa : Int32) (xb : Int32) (σ : St) (hI : Ic σ) : CFI l D (tyL cA) rh (rcW rh cA) NW yX7_told cX7_told 4 7 3 18 [.ref (rh iSM), .int xa, .int xb] σ (f_SM_told xa xb σ) := by
  refine CFI.of rfl (Nat.le_of_ble_eq_true rfl) hlt ?_
  intro p9 e s m args below meth c A Q X hend hthr hnew
  refine v_lv (lv' := [(0, .ref (rh iSM)), (1, .int xa), (2, .int xb)]) [0, 1, 2] rfl ?_
  refine v_iload_n X 1 dX7_told_0 rfl rfl ?_
  refine v_callS_CI (rest := []) X [.int xa] (c_SM_isPartition xa σ ) mf_SM_isPartition ws_SM_isPartition wm_SM_36 rfl ⟨by decide, by decide⟩ (Nat.le_of_ble_eq_true rfl) ⟨by decide, by decide⟩ dX7_told_1 ?_
  refine v_suff (pc2 := 22) (lv2 := [(0, .ref (rh iSM)), (1, .int xa), (2, .int xb)]) (st2 := [.int ((if (f_SM_isPartition xa) = 0 then 0 else (if (f_SM_within xb 0 8) = 0 then 0 else 1)) : Int32)]) (σ2 := σ) ?_ (fun J4 => ?_)
  rotate_left
  ·
    refine v_if_eq X 21 dX7_told_4 (by decide) (fun h4 => ?_) (fun h4 => ?_)
    ·
      refine v_iconst (v := 0) X dX7_told_21 (by decide) ?_
      have e9 : (((if (f_SM_isPartition xa) = 0 then 0 else (if (f_SM_within xb 0 8) = 0 then 0 else 1)) : Int32) : Int32) = 0 := by simp only [if_pos h4]
      rw [e9] at J4
      exact J4
    ·
      refine v_iload_n X 2 dX7_told_7 rfl rfl ?_
      refine v_iconst (v := 0) X dX7_told_8 (by decide) ?_
      refine v_bipush (v := 8) X dX7_told_9 (by decide) ?_
      refine v_callS_CI (rest := []) X [.int xb, .int 0, .int 8] (c_SM_within xb 0 8 σ ) mf_SM_within ws_SM_within wm_SM_40 rfl ⟨by decide, by decide⟩ (Nat.le_of_ble_eq_true rfl) ⟨by decide, by decide⟩ dX7_told_11 ?_
      refine v_if_eq X 21 dX7_told_14 (by decide) (fun h14 => ?_) (fun h14 => ?_)
      ·
        refine v_iconst (v := 0) X dX7_told_21 (by decide) ?_
        have e9 : (((if (f_SM_isPartition xa) = 0 then 0 else (if (f_SM_within xb 0 8) = 0 then 0 else 1)) : Int32) : Int32) = 0 := by simp only [if_neg h4, if_pos h14]
        rw [e9] at J4
        exact J4
      ·
        refine v_iconst (v := 1) X dX7_told_17 (by decide) ?_
        refine v_goto (tgt := 22) X dX7_told_18 (by decide) ?_
        have e9 : (((if (f_SM_isPartition xa) = 0 then 0 else (if (f_SM_within xb 0 8) = 0 then 0 else 1)) : Int32) : Int32) = 1 := by simp only [if_neg h4, if_neg h14]
        rw [e9] at J4
        exact J4
  refine v_callS_CFV (rest := []) X [.int ((if (f_SM_isPartition xa) = 0 then 0 else (if (f_SM_within xb 0 8) = 0 then 0 else 1)) : Int32)] (c_SM_refuseBadUnless hlt ((if (f_SM_isPartition xa) = 0 then 0 else (if (f_SM_within xb 0 8) = 0 then 0 else 1)) : Int32) σ ) mf_SM_refuseBadUnless ws_SM_refuseBadUnless wm_SM_44 rfl ⟨by decide, by decide⟩ (Nat.le_of_ble_eq_true rfl) ⟨by decide, by decide⟩ dX7_told_22 (fun h22 => ?_) (fun h22 => ?_)
  ·
    have e9 : f_SM_told xa xb σ = (f_SM_refuseBadUnless ((if (f_SM_isPartition xa) = 0 then 0 else (if (f_SM_within xb 0 8) = 0 then 0 else 1)) : Int32), 0, σ) := by simp only [f_SM_told, if_neg h22]
    exact hthr _ _ _ _ _ _ _ e9 h22 (by decide) (by decide)
  refine v_aload_n X 0 dX7_told_25 rfl rfl ?_
  refine v_getR (j := iMA) (i := iSM) (k := 0) X (lt_SM ) (sh_SM ) rfl in_SM (by decide) wf_SM_12 rfl (fun _ => rfl) dX7_told_26 ?_
  refine v_getR (j := iAP) (i := iMA) (k := 2) X (lt_MA ) (sh_MA ) rfl in_MA (by decide) wf_SM_57 rfl (fun _ => rfl) dX7_told_29 ?_
  refine v_iload_n X 1 dX7_told_32 rfl rfl ?_
  have hv33 : vp_in xa 4 := (pt_in (ifnz (rb_nz h22)))
  refine v_aald (i := iAP) (t0 := 1) (g := iP) X (lt_APT ) (sh_APT ) rfl hv33 dX7_told_33 ?_
  refine v_astore_n (lv' := [(3, .ref (rh (iP (xa).toNatClampNeg))), (0, .ref (rh iSM)), (1, .int xa), (2, .int xb)]) X dX7_told_34 rfl (by decide) rfl ?_
  refine v_iload_n X 3 dX7_told_35 rfl rfl ?_
  by_cases h36_0 : xb = 6
  ·
    refine v_tswI (off := 28) X 6 64 h36_0 dX7_told_36 (by decide) (by decide) ?_
    refine v_aload_n X 0 dX7_told_64 rfl rfl ?_
    refine v_getI (i := (iP (xa).toNatClampNeg)) (k := 3) X (lt_PT (vin_lt hv33)) (sh_PT (vin_lt hv33)) rfl in_PT (by decide) wf_SM_76 rfl (fun _ => rfl) dX7_told_65 ?_
    have e9 : f_SM_told xa xb σ = (0, (σ (iP (xa).toNatClampNeg) 3), σ) := by simp only [f_SM_told, if_pos h22, if_pos h36_0]
    exact hend _ _ _ _ _ _ e9 (by decide) (by decide) dX7_told_68
  by_cases h36_1 : xb = 7
  ·
    refine v_tswI (off := 33) X 7 69 h36_1 dX7_told_36 (by decide) (by decide) ?_
    refine v_aload_n X 0 dX7_told_69 rfl rfl ?_
    refine v_getI (i := (iP (xa).toNatClampNeg)) (k := 1) X (lt_PT (vin_lt hv33)) (sh_PT (vin_lt hv33)) rfl in_PT (by decide) wf_SM_61 rfl (fun _ => rfl) dX7_told_70 ?_
    have e9 : f_SM_told xa xb σ = (0, (σ (iP (xa).toNatClampNeg) 1), σ) := by simp only [f_SM_told, if_pos h22, if_neg h36_0, if_pos h36_1]
    exact hend _ _ _ _ _ _ e9 (by decide) (by decide) dX7_told_73
  by_cases h36_2 : xb = 8
  ·
    refine v_tswI (off := 38) X 8 74 h36_2 dX7_told_36 (by decide) (by decide) ?_
    refine v_aload_n X 0 dX7_told_74 rfl rfl ?_
    refine v_getI (i := (iP (xa).toNatClampNeg)) (k := 2) X (lt_PT (vin_lt hv33)) (sh_PT (vin_lt hv33)) rfl in_PT (by decide) wf_SM_66 rfl (fun _ => rfl) dX7_told_75 ?_
    have e9 : f_SM_told xa xb σ = (0, (σ (iP (xa).toNatClampNeg) 2), σ) := by simp only [f_SM_told, if_pos h22, if_neg h36_0, if_neg h36_1, if_pos h36_2]
    exact hend _ _ _ _ _ _ e9 (by decide) (by decide) dX7_told_78
  refine v_tswO X 79 dX7_told_36 (by have g0 := lv_neT (a := 6) h36_0 (by decide); have g1 := lv_neT (a := 7) h36_1 (by decide); have g2 := lv_neT (a := 8) h36_2 (by decide); omega) (by decide) ?_
  refine v_aload_n X 1 dX7_told_79 rfl rfl ?_
  refine v_getI (i := iSM) (k := 2) X (lt_SM ) (sh_SM ) rfl in_SM (by decide) wf_SM_25 rfl (fun _ => rfl) dX7_told_80 ?_
  refine v_suff (pc2 := 95) (lv2 := [(3, .ref (rh (iP (xa).toNatClampNeg))), (0, .ref (rh iSM)), (1, .int xa), (2, .int xb)]) (st2 := [.int ((if (σ iSM 2) = 0 then 0 else (f_PT_sinceBooted (xa).toNatClampNeg xb σ)) : Int32)]) (σ2 := σ) ?_ (fun J83 => ?_)
  rotate_left
  ·
    refine v_if_eq X 94 dX7_told_83 (by decide) (fun h83 => ?_) (fun h83 => ?_)
    ·
      refine v_iconst (v := 0) X dX7_told_94 (by decide) ?_
      have e9 : (((if (σ iSM 2) = 0 then 0 else (f_PT_sinceBooted (xa).toNatClampNeg xb σ)) : Int32) : Int32) = 0 := by simp only [if_pos h83]
      rw [e9] at J83
      exact J83
    ·
      refine v_aload_n X 0 dX7_told_86 rfl rfl ?_
      refine v_iload_n X 3 dX7_told_87 rfl rfl ?_
      refine v_callV_CI (rest := []) X [.int xb] (c_PT_sinceBooted (vin_lt hv33) xb σ ) mf_PT_sinceBooted wi_PT_sinceBooted wl_PT_sinceBooted (lt_PT (vin_lt hv33)) (sh_PT (vin_lt hv33)) rfl wm_SM_126 rfl ⟨by decide, by decide⟩ (Nat.le_of_ble_eq_true rfl) ⟨by decide, by decide⟩ dX7_told_88 ?_
      refine v_goto (tgt := 95) X dX7_told_91 (by decide) ?_
      have e9 : (((if (σ iSM 2) = 0 then 0 else (f_PT_sinceBooted (xa).toNatClampNeg xb σ)) : Int32) : Int32) = (f_PT_sinceBooted (xa).toNatClampNeg xb σ) := by simp only [if_neg h83]
      rw [e9] at J83
      exact J83
  have e9 : f_SM_told xa xb σ = (0, ((if (σ iSM 2) = 0 then 0 else (f_PT_sinceBooted (xa).toNatClampNeg xb σ)) : Int32), σ) := by simp only [f_SM_told, if_pos h22, if_neg h36_0, if_neg h36_1, if_neg h36_2]
  exact hend _ _ _ _ _ _ e9 (by decide) (by decide) dX7_told_95
def f_SM_object (xa : Int32) (xb : Int32) (σ : St) : Int32 × Int32 × St :=
  (if f_SM_refuseBadUnless ((if (f_SM_isChannel xa) = 0 then 0 else (if (f_SM_within xb 0 3) = 0 then 0 else 1)) : Int32) = 0 then (if xb = 0 then (0, (f_CH_valueOrZero (xa).toNatClampNeg σ), σ) else (if xb = 1 then (0, (f_CH_hourOrNone (xa).toNatClampNeg σ), σ) else (if xb = 2 then (0, (σ (iS (xa).toNatClampNeg) 0), σ) else (0, (σ (iS (xa).toNatClampNeg) 1), σ)))) else (f_SM_refuseBadUnless ((if (f_SM_isChannel xa) = 0 then 0 else (if (f_SM_within xb 0 3) = 0 then 0 else 1)) : Int32), 0, σ))
set_option maxHeartbeats 4000000 in
set_option maxRecDepth 100000 in
theorem c_SM_object (hlt : l.stackTraces = false) (xa : Int32) (xb : Int32) (σ : St) (hI : Ic σ) : CFI l D (tyL cA) rh (rcW rh cA) NW yX7_object cX7_object 3 7 3 18 [.ref (rh iSM), .int xa, .int xb] σ (f_SM_object xa xb σ) := by
  refine CFI.of rfl (Nat.le_of_ble_eq_true rfl) hlt ?_
  intro p9 e s m args below meth c A Q X hend hthr hnew
  refine v_lv (lv' := [(0, .ref (rh iSM)), (1, .int xa), (2, .int xb)]) [0, 1, 2] rfl ?_
  refine v_iload_n X 1 dX7_object_0 rfl rfl ?_
  refine v_callS_CI (rest := []) X [.int xa] (c_SM_isChannel xa σ ) mf_SM_isChannel ws_SM_isChannel wm_SM_84 rfl ⟨by decide, by decide⟩ (Nat.le_of_ble_eq_true rfl) ⟨by decide, by decide⟩ dX7_object_1 ?_
  refine v_suff (pc2 := 21) (lv2 := [(0, .ref (rh iSM)), (1, .int xa), (2, .int xb)]) (st2 := [.int ((if (f_SM_isChannel xa) = 0 then 0 else (if (f_SM_within xb 0 3) = 0 then 0 else 1)) : Int32)]) (σ2 := σ) ?_ (fun J4 => ?_)
  rotate_left
  ·
    refine v_if_eq X 20 dX7_object_4 (by decide) (fun h4 => ?_) (fun h4 => ?_)
    ·
      refine v_iconst (v := 0) X dX7_object_20 (by decide) ?_
      have e9 : (((if (f_SM_isChannel xa) = 0 then 0 else (if (f_SM_within xb 0 3) = 0 then 0 else 1)) : Int32) : Int32) = 0 := by simp only [if_pos h4]
      rw [e9] at J4
      exact J4
    ·
      refine v_iload_n X 2 dX7_object_7 rfl rfl ?_
      refine v_iconst (v := 0) X dX7_object_8 (by decide) ?_
      refine v_iconst (v := 3) X dX7_object_9 (by decide) ?_
      refine v_callS_CI (rest := []) X [.int xb, .int 0, .int 3] (c_SM_within xb 0 3 σ ) mf_SM_within ws_SM_within wm_SM_40 rfl ⟨by decide, by decide⟩ (Nat.le_of_ble_eq_true rfl) ⟨by decide, by decide⟩ dX7_object_10 ?_
      refine v_if_eq X 20 dX7_object_13 (by decide) (fun h13 => ?_) (fun h13 => ?_)
      ·
        refine v_iconst (v := 0) X dX7_object_20 (by decide) ?_
        have e9 : (((if (f_SM_isChannel xa) = 0 then 0 else (if (f_SM_within xb 0 3) = 0 then 0 else 1)) : Int32) : Int32) = 0 := by simp only [if_neg h4, if_pos h13]
        rw [e9] at J4
        exact J4
      ·
        refine v_iconst (v := 1) X dX7_object_16 (by decide) ?_
        refine v_goto (tgt := 21) X dX7_object_17 (by decide) ?_
        have e9 : (((if (f_SM_isChannel xa) = 0 then 0 else (if (f_SM_within xb 0 3) = 0 then 0 else 1)) : Int32) : Int32) = 1 := by simp only [if_neg h4, if_neg h13]
        rw [e9] at J4
        exact J4
  refine v_callS_CFV (rest := []) X [.int ((if (f_SM_isChannel xa) = 0 then 0 else (if (f_SM_within xb 0 3) = 0 then 0 else 1)) : Int32)] (c_SM_refuseBadUnless hlt ((if (f_SM_isChannel xa) = 0 then 0 else (if (f_SM_within xb 0 3) = 0 then 0 else 1)) : Int32) σ ) mf_SM_refuseBadUnless ws_SM_refuseBadUnless wm_SM_44 rfl ⟨by decide, by decide⟩ (Nat.le_of_ble_eq_true rfl) ⟨by decide, by decide⟩ dX7_object_21 (fun h21 => ?_) (fun h21 => ?_)
  ·
    have e9 : f_SM_object xa xb σ = (f_SM_refuseBadUnless ((if (f_SM_isChannel xa) = 0 then 0 else (if (f_SM_within xb 0 3) = 0 then 0 else 1)) : Int32), 0, σ) := by simp only [f_SM_object, if_neg h21]
    exact hthr _ _ _ _ _ _ _ e9 h21 (by decide) (by decide)
  refine v_iload_n X 2 dX7_object_24 rfl rfl ?_
  by_cases h25_0 : xb = 0
  ·
    refine v_tswI (off := 27) X 0 52 h25_0 dX7_object_25 (by decide) (by decide) ?_
    refine v_aload_n X 0 dX7_object_52 rfl rfl ?_
    refine v_getR (j := iMA) (i := iSM) (k := 0) X (lt_SM ) (sh_SM ) rfl in_SM (by decide) wf_SM_12 rfl (fun _ => rfl) dX7_object_53 ?_
    refine v_getR (j := iAC) (i := iMA) (k := 3) X (lt_MA ) (sh_MA ) rfl in_MA (by decide) wf_SM_87 rfl (fun _ => rfl) dX7_object_56 ?_
    refine v_iload_n X 1 dX7_object_59 rfl rfl ?_
    have hv60 : vp_in xa 4 := (ch_in (ifnz (rb_nz h21)))
    refine v_aald (i := iAC) (t0 := 2) (g := iC) X (lt_ACH ) (sh_ACH ) rfl hv60 dX7_object_60 ?_
    refine v_callV_CI (rest := []) X [] (c_CH_valueOrZero (vin_lt hv60) σ ) mf_CH_valueOrZero wi_CH_valueOrZero wl_CH_valueOrZero (lt_CH (vin_lt hv60)) (sh_CH (vin_lt hv60)) rfl wm_SM_129 rfl ⟨by decide, by decide⟩ (Nat.le_of_ble_eq_true rfl) ⟨by decide, by decide⟩ dX7_object_61 ?_
    have e9 : f_SM_object xa xb σ = (0, (f_CH_valueOrZero (xa).toNatClampNeg σ), σ) := by simp only [f_SM_object, if_pos h21, if_pos h25_0]
    exact hend _ _ _ _ _ _ e9 (by decide) (by decide) dX7_object_64
  by_cases h25_1 : xb = 1
  ·
    refine v_tswI (off := 40) X 1 65 h25_1 dX7_object_25 (by decide) (by decide) ?_
    refine v_aload_n X 0 dX7_object_65 rfl rfl ?_
    refine v_getR (j := iMA) (i := iSM) (k := 0) X (lt_SM ) (sh_SM ) rfl in_SM (by decide) wf_SM_12 rfl (fun _ => rfl) dX7_object_66 ?_
    refine v_getR (j := iAC) (i := iMA) (k := 3) X (lt_MA ) (sh_MA ) rfl in_MA (by decide) wf_SM_87 rfl (fun _ => rfl) dX7_object_69 ?_
    refine v_iload_n X 1 dX7_object_72 rfl rfl ?_
    have hv73 : vp_in xa 4 := (ch_in (ifnz (rb_nz h21)))
    refine v_aald (i := iAC) (t0 := 2) (g := iC) X (lt_ACH ) (sh_ACH ) rfl hv73 dX7_object_73 ?_
    refine v_callV_CI (rest := []) X [] (c_CH_hourOrNone (vin_lt hv73) σ ) mf_CH_hourOrNone wi_CH_hourOrNone wl_CH_hourOrNone (lt_CH (vin_lt hv73)) (sh_CH (vin_lt hv73)) rfl wm_SM_132 rfl ⟨by decide, by decide⟩ (Nat.le_of_ble_eq_true rfl) ⟨by decide, by decide⟩ dX7_object_74 ?_
    have e9 : f_SM_object xa xb σ = (0, (f_CH_hourOrNone (xa).toNatClampNeg σ), σ) := by simp only [f_SM_object, if_pos h21, if_neg h25_0, if_pos h25_1]
    exact hend _ _ _ _ _ _ e9 (by decide) (by decide) dX7_object_77
  by_cases h25_2 : xb = 2
  ·
    refine v_tswI (off := 53) X 2 78 h25_2 dX7_object_25 (by decide) (by decide) ?_
    refine v_aload_n X 0 dX7_object_78 rfl rfl ?_
    refine v_getR (j := iMA) (i := iSM) (k := 0) X (lt_SM ) (sh_SM ) rfl in_SM (by decide) wf_SM_12 rfl (fun _ => rfl) dX7_object_79 ?_
    refine v_getR (j := iAS) (i := iMA) (k := 4) X (lt_MA ) (sh_MA ) rfl in_MA (by decide) wf_SM_135 rfl (fun _ => rfl) dX7_object_82 ?_
    refine v_iload_n X 1 dX7_object_85 rfl rfl ?_
    have hv86 : vp_in xa 4 := (ch_in (ifnz (rb_nz h21)))
    refine v_aald (i := iAS) (t0 := 3) (g := iS) X (lt_ASL ) (sh_ASL ) rfl hv86 dX7_object_86 ?_
    refine v_getI (i := (iS (xa).toNatClampNeg)) (k := 0) X (lt_SL (vin_lt hv86)) (sh_SL (vin_lt hv86)) rfl in_SL (by decide) wf_SM_139 rfl (fun _ => rfl) dX7_object_87 ?_
    have e9 : f_SM_object xa xb σ = (0, (σ (iS (xa).toNatClampNeg) 0), σ) := by simp only [f_SM_object, if_pos h21, if_neg h25_0, if_neg h25_1, if_pos h25_2]
    exact hend _ _ _ _ _ _ e9 (by decide) (by decide) dX7_object_90
  refine v_tswO X 91 dX7_object_25 (by have g0 := lv_neT (a := 0) h25_0 (by decide); have g1 := lv_neT (a := 1) h25_1 (by decide); have g2 := lv_neT (a := 2) h25_2 (by decide); omega) (by decide) ?_
  refine v_aload_n X 0 dX7_object_91 rfl rfl ?_
  refine v_getR (j := iMA) (i := iSM) (k := 0) X (lt_SM ) (sh_SM ) rfl in_SM (by decide) wf_SM_12 rfl (fun _ => rfl) dX7_object_92 ?_
  refine v_getR (j := iAS) (i := iMA) (k := 4) X (lt_MA ) (sh_MA ) rfl in_MA (by decide) wf_SM_135 rfl (fun _ => rfl) dX7_object_95 ?_
  refine v_iload_n X 1 dX7_object_98 rfl rfl ?_
  have hv99 : vp_in xa 4 := (ch_in (ifnz (rb_nz h21)))
  refine v_aald (i := iAS) (t0 := 3) (g := iS) X (lt_ASL ) (sh_ASL ) rfl hv99 dX7_object_99 ?_
  refine v_getI (i := (iS (xa).toNatClampNeg)) (k := 1) X (lt_SL (vin_lt hv99)) (sh_SL (vin_lt hv99)) rfl in_SL (by decide) wf_SM_144 rfl (fun _ => rfl) dX7_object_100 ?_
  have e9 : f_SM_object xa xb σ = (0, (σ (iS (xa).toNatClampNeg) 1), σ) := by simp only [f_SM_object, if_pos h21, if_neg h25_0, if_neg h25_1, if_neg h25_2]
  exact hend _ _ _ _ _ _ e9 (by decide) (by decide) dX7_object_103
def f_SM_count (xa : Int32) (σ : St) : Int32 :=
  (if xa = 0 then ((if (σ iSM 2) = 0 then 0 else 1) : Int32) else (if xa = 1 then ((if (σ iSM 2) = 0 then 0 else (σ iMA 5)) : Int32) else (if xa = 2 then ((if (σ iSM 2) = 0 then 0 else (σ iTT 3)) : Int32) else (if xa = 3 then ((if (σ iSM 2) = 0 then 0 else (σ iTT 4)) : Int32) else (if xa = 4 then ((if (σ iSM 2) = 0 then 0 else (σ iSM 4)) : Int32) else (if xa = 5 then ((if (σ iSM 2) = 0 then 0 else (σ iTT 5)) : Int32) else (if xa = 6 then (σ iTT 2) else (if xa = 7 then (σ iSM 3) else (-1)))))))))
set_option maxHeartbeats 4000000 in
set_option maxRecDepth 100000 in
theorem c_SM_count (xa : Int32) (σ : St) : CI l D (tyL cA) rh (rcW rh cA) NW yX7_count cX7_count 2 .int 0 [.ref (rh iSM), .int xa] σ (f_SM_count xa σ) σ := by
  refine CI.of rfl (Nat.le_of_ble_eq_true rfl) rfl ?_
  intro p9 e s m args below meth c A Q X hend
  refine v_lv (lv' := [(0, .ref (rh iSM)), (1, .int xa)]) [0, 1] rfl ?_
  refine v_iload_n X 1 dX7_count_0 rfl rfl ?_
  by_cases h1_0 : xa = 0
  ·
    refine v_tswI (off := 47) X 0 48 h1_0 dX7_count_1 (by decide) (by decide) ?_
    refine v_aload_n X 0 dX7_count_48 rfl rfl ?_
    refine v_getI (i := iSM) (k := 2) X (lt_SM ) (sh_SM ) rfl in_SM (by decide) wf_SM_25 rfl (fun _ => rfl) dX7_count_49 ?_
    refine v_suff (pc2 := 60) (lv2 := [(0, .ref (rh iSM)), (1, .int xa)]) (st2 := [.int ((if (σ iSM 2) = 0 then 0 else 1) : Int32)]) (σ2 := σ) ?_ (fun J52 => ?_)
    rotate_left
    ·
      refine v_if_eq X 59 dX7_count_52 (by decide) (fun h52 => ?_) (fun h52 => ?_)
      ·
        refine v_iconst (v := 0) X dX7_count_59 (by decide) ?_
        have e9 : (((if (σ iSM 2) = 0 then 0 else 1) : Int32) : Int32) = 0 := by simp only [if_pos h52]
        rw [e9] at J52
        exact J52
      ·
        refine v_iconst (v := 1) X dX7_count_55 (by decide) ?_
        refine v_goto (tgt := 60) X dX7_count_56 (by decide) ?_
        have e9 : (((if (σ iSM 2) = 0 then 0 else 1) : Int32) : Int32) = 1 := by simp only [if_neg h52]
        rw [e9] at J52
        exact J52
    have e9 : f_SM_count xa σ = ((if (σ iSM 2) = 0 then 0 else 1) : Int32) := by simp only [f_SM_count, if_pos h1_0]
    exact v_endI hend dX7_count_60 e9 rfl
  by_cases h1_1 : xa = 1
  ·
    refine v_tswI (off := 60) X 1 61 h1_1 dX7_count_1 (by decide) (by decide) ?_
    refine v_aload_n X 0 dX7_count_61 rfl rfl ?_
    refine v_getI (i := iSM) (k := 2) X (lt_SM ) (sh_SM ) rfl in_SM (by decide) wf_SM_25 rfl (fun _ => rfl) dX7_count_62 ?_
    refine v_suff (pc2 := 79) (lv2 := [(0, .ref (rh iSM)), (1, .int xa)]) (st2 := [.int ((if (σ iSM 2) = 0 then 0 else (σ iMA 5)) : Int32)]) (σ2 := σ) ?_ (fun J65 => ?_)
    rotate_left
    ·
      refine v_if_eq X 78 dX7_count_65 (by decide) (fun h65 => ?_) (fun h65 => ?_)
      ·
        refine v_iconst (v := 0) X dX7_count_78 (by decide) ?_
        have e9 : (((if (σ iSM 2) = 0 then 0 else (σ iMA 5)) : Int32) : Int32) = 0 := by simp only [if_pos h65]
        rw [e9] at J65
        exact J65
      ·
        refine v_aload_n X 0 dX7_count_68 rfl rfl ?_
        refine v_getR (j := iMA) (i := iSM) (k := 0) X (lt_SM ) (sh_SM ) rfl in_SM (by decide) wf_SM_12 rfl (fun _ => rfl) dX7_count_69 ?_
        refine v_getI (i := iMA) (k := 5) X (lt_MA ) (sh_MA ) rfl in_MA (by decide) wf_SM_147 rfl (fun _ => rfl) dX7_count_72 ?_
        refine v_goto (tgt := 79) X dX7_count_75 (by decide) ?_
        have e9 : (((if (σ iSM 2) = 0 then 0 else (σ iMA 5)) : Int32) : Int32) = (σ iMA 5) := by simp only [if_neg h65]
        rw [e9] at J65
        exact J65
    have e9 : f_SM_count xa σ = ((if (σ iSM 2) = 0 then 0 else (σ iMA 5)) : Int32) := by simp only [f_SM_count, if_neg h1_0, if_pos h1_1]
    exact v_endI hend dX7_count_79 e9 rfl
  by_cases h1_2 : xa = 2
  ·
    refine v_tswI (off := 79) X 2 80 h1_2 dX7_count_1 (by decide) (by decide) ?_
    refine v_aload_n X 0 dX7_count_80 rfl rfl ?_
    refine v_getI (i := iSM) (k := 2) X (lt_SM ) (sh_SM ) rfl in_SM (by decide) wf_SM_25 rfl (fun _ => rfl) dX7_count_81 ?_
    refine v_suff (pc2 := 98) (lv2 := [(0, .ref (rh iSM)), (1, .int xa)]) (st2 := [.int ((if (σ iSM 2) = 0 then 0 else (σ iTT 3)) : Int32)]) (σ2 := σ) ?_ (fun J84 => ?_)
    rotate_left
    ·
      refine v_if_eq X 97 dX7_count_84 (by decide) (fun h84 => ?_) (fun h84 => ?_)
      ·
        refine v_iconst (v := 0) X dX7_count_97 (by decide) ?_
        have e9 : (((if (σ iSM 2) = 0 then 0 else (σ iTT 3)) : Int32) : Int32) = 0 := by simp only [if_pos h84]
        rw [e9] at J84
        exact J84
      ·
        refine v_aload_n X 0 dX7_count_87 rfl rfl ?_
        refine v_getR (j := iTT) (i := iSM) (k := 1) X (lt_SM ) (sh_SM ) rfl in_SM (by decide) wf_SM_21 rfl (fun _ => rfl) dX7_count_88 ?_
        refine v_getI (i := iTT) (k := 3) X (lt_TT ) (sh_TT ) rfl in_TT (by decide) wf_SM_150 rfl (fun _ => rfl) dX7_count_91 ?_
        refine v_goto (tgt := 98) X dX7_count_94 (by decide) ?_
        have e9 : (((if (σ iSM 2) = 0 then 0 else (σ iTT 3)) : Int32) : Int32) = (σ iTT 3) := by simp only [if_neg h84]
        rw [e9] at J84
        exact J84
    have e9 : f_SM_count xa σ = ((if (σ iSM 2) = 0 then 0 else (σ iTT 3)) : Int32) := by simp only [f_SM_count, if_neg h1_0, if_neg h1_1, if_pos h1_2]
    exact v_endI hend dX7_count_98 e9 rfl
  by_cases h1_3 : xa = 3
  ·
    refine v_tswI (off := 98) X 3 99 h1_3 dX7_count_1 (by decide) (by decide) ?_
    refine v_aload_n X 0 dX7_count_99 rfl rfl ?_
    refine v_getI (i := iSM) (k := 2) X (lt_SM ) (sh_SM ) rfl in_SM (by decide) wf_SM_25 rfl (fun _ => rfl) dX7_count_100 ?_
    refine v_suff (pc2 := 117) (lv2 := [(0, .ref (rh iSM)), (1, .int xa)]) (st2 := [.int ((if (σ iSM 2) = 0 then 0 else (σ iTT 4)) : Int32)]) (σ2 := σ) ?_ (fun J103 => ?_)
    rotate_left
    ·
      refine v_if_eq X 116 dX7_count_103 (by decide) (fun h103 => ?_) (fun h103 => ?_)
      ·
        refine v_iconst (v := 0) X dX7_count_116 (by decide) ?_
        have e9 : (((if (σ iSM 2) = 0 then 0 else (σ iTT 4)) : Int32) : Int32) = 0 := by simp only [if_pos h103]
        rw [e9] at J103
        exact J103
      ·
        refine v_aload_n X 0 dX7_count_106 rfl rfl ?_
        refine v_getR (j := iTT) (i := iSM) (k := 1) X (lt_SM ) (sh_SM ) rfl in_SM (by decide) wf_SM_21 rfl (fun _ => rfl) dX7_count_107 ?_
        refine v_getI (i := iTT) (k := 4) X (lt_TT ) (sh_TT ) rfl in_TT (by decide) wf_SM_153 rfl (fun _ => rfl) dX7_count_110 ?_
        refine v_goto (tgt := 117) X dX7_count_113 (by decide) ?_
        have e9 : (((if (σ iSM 2) = 0 then 0 else (σ iTT 4)) : Int32) : Int32) = (σ iTT 4) := by simp only [if_neg h103]
        rw [e9] at J103
        exact J103
    have e9 : f_SM_count xa σ = ((if (σ iSM 2) = 0 then 0 else (σ iTT 4)) : Int32) := by simp only [f_SM_count, if_neg h1_0, if_neg h1_1, if_neg h1_2, if_pos h1_3]
    exact v_endI hend dX7_count_117 e9 rfl
  by_cases h1_4 : xa = 4
  ·
    refine v_tswI (off := 117) X 4 118 h1_4 dX7_count_1 (by decide) (by decide) ?_
    refine v_aload_n X 0 dX7_count_118 rfl rfl ?_
    refine v_getI (i := iSM) (k := 2) X (lt_SM ) (sh_SM ) rfl in_SM (by decide) wf_SM_25 rfl (fun _ => rfl) dX7_count_119 ?_
    refine v_suff (pc2 := 133) (lv2 := [(0, .ref (rh iSM)), (1, .int xa)]) (st2 := [.int ((if (σ iSM 2) = 0 then 0 else (σ iSM 4)) : Int32)]) (σ2 := σ) ?_ (fun J122 => ?_)
    rotate_left
    ·
      refine v_if_eq X 132 dX7_count_122 (by decide) (fun h122 => ?_) (fun h122 => ?_)
      ·
        refine v_iconst (v := 0) X dX7_count_132 (by decide) ?_
        have e9 : (((if (σ iSM 2) = 0 then 0 else (σ iSM 4)) : Int32) : Int32) = 0 := by simp only [if_pos h122]
        rw [e9] at J122
        exact J122
      ·
        refine v_aload_n X 0 dX7_count_125 rfl rfl ?_
        refine v_getI (i := iSM) (k := 4) X (lt_SM ) (sh_SM ) rfl in_SM (by decide) wf_SM_33 rfl (fun _ => rfl) dX7_count_126 ?_
        refine v_goto (tgt := 133) X dX7_count_129 (by decide) ?_
        have e9 : (((if (σ iSM 2) = 0 then 0 else (σ iSM 4)) : Int32) : Int32) = (σ iSM 4) := by simp only [if_neg h122]
        rw [e9] at J122
        exact J122
    have e9 : f_SM_count xa σ = ((if (σ iSM 2) = 0 then 0 else (σ iSM 4)) : Int32) := by simp only [f_SM_count, if_neg h1_0, if_neg h1_1, if_neg h1_2, if_neg h1_3, if_pos h1_4]
    exact v_endI hend dX7_count_133 e9 rfl
  by_cases h1_5 : xa = 5
  ·
    refine v_tswI (off := 133) X 5 134 h1_5 dX7_count_1 (by decide) (by decide) ?_
    refine v_aload_n X 0 dX7_count_134 rfl rfl ?_
    refine v_getI (i := iSM) (k := 2) X (lt_SM ) (sh_SM ) rfl in_SM (by decide) wf_SM_25 rfl (fun _ => rfl) dX7_count_135 ?_
    refine v_suff (pc2 := 152) (lv2 := [(0, .ref (rh iSM)), (1, .int xa)]) (st2 := [.int ((if (σ iSM 2) = 0 then 0 else (σ iTT 5)) : Int32)]) (σ2 := σ) ?_ (fun J138 => ?_)
    rotate_left
    ·
      refine v_if_eq X 151 dX7_count_138 (by decide) (fun h138 => ?_) (fun h138 => ?_)
      ·
        refine v_iconst (v := 0) X dX7_count_151 (by decide) ?_
        have e9 : (((if (σ iSM 2) = 0 then 0 else (σ iTT 5)) : Int32) : Int32) = 0 := by simp only [if_pos h138]
        rw [e9] at J138
        exact J138
      ·
        refine v_aload_n X 0 dX7_count_141 rfl rfl ?_
        refine v_getR (j := iTT) (i := iSM) (k := 1) X (lt_SM ) (sh_SM ) rfl in_SM (by decide) wf_SM_21 rfl (fun _ => rfl) dX7_count_142 ?_
        refine v_getI (i := iTT) (k := 5) X (lt_TT ) (sh_TT ) rfl in_TT (by decide) wf_SM_156 rfl (fun _ => rfl) dX7_count_145 ?_
        refine v_goto (tgt := 152) X dX7_count_148 (by decide) ?_
        have e9 : (((if (σ iSM 2) = 0 then 0 else (σ iTT 5)) : Int32) : Int32) = (σ iTT 5) := by simp only [if_neg h138]
        rw [e9] at J138
        exact J138
    have e9 : f_SM_count xa σ = ((if (σ iSM 2) = 0 then 0 else (σ iTT 5)) : Int32) := by simp only [f_SM_count, if_neg h1_0, if_neg h1_1, if_neg h1_2, if_neg h1_3, if_neg h1_4, if_pos h1_5]
    exact v_endI hend dX7_count_152 e9 rfl
  by_cases h1_6 : xa = 6
  ·
    refine v_tswI (off := 152) X 6 153 h1_6 dX7_count_1 (by decide) (by decide) ?_
    refine v_aload_n X 0 dX7_count_153 rfl rfl ?_
    refine v_getR (j := iTT) (i := iSM) (k := 1) X (lt_SM ) (sh_SM ) rfl in_SM (by decide) wf_SM_21 rfl (fun _ => rfl) dX7_count_154 ?_
    refine v_getI (i := iTT) (k := 2) X (lt_TT ) (sh_TT ) rfl in_TT (by decide) wf_SM_79 rfl (fun _ => rfl) dX7_count_157 ?_
    have e9 : f_SM_count xa σ = (σ iTT 2) := by simp only [f_SM_count, if_neg h1_0, if_neg h1_1, if_neg h1_2, if_neg h1_3, if_neg h1_4, if_neg h1_5, if_pos h1_6]
    exact v_endI hend dX7_count_160 e9 rfl
  by_cases h1_7 : xa = 7
  ·
    refine v_tswI (off := 160) X 7 161 h1_7 dX7_count_1 (by decide) (by decide) ?_
    refine v_aload_n X 0 dX7_count_161 rfl rfl ?_
    refine v_getI (i := iSM) (k := 3) X (lt_SM ) (sh_SM ) rfl in_SM (by decide) wf_SM_29 rfl (fun _ => rfl) dX7_count_162 ?_
    have e9 : f_SM_count xa σ = (σ iSM 3) := by simp only [f_SM_count, if_neg h1_0, if_neg h1_1, if_neg h1_2, if_neg h1_3, if_neg h1_4, if_neg h1_5, if_neg h1_6, if_pos h1_7]
    exact v_endI hend dX7_count_165 e9 rfl
  refine v_tswO X 166 dX7_count_1 (by have g0 := lv_neT (a := 0) h1_0 (by decide); have g1 := lv_neT (a := 1) h1_1 (by decide); have g2 := lv_neT (a := 2) h1_2 (by decide); have g3 := lv_neT (a := 3) h1_3 (by decide); have g4 := lv_neT (a := 4) h1_4 (by decide); have g5 := lv_neT (a := 5) h1_5 (by decide); have g6 := lv_neT (a := 6) h1_6 (by decide); have g7 := lv_neT (a := 7) h1_7 (by decide); omega) (by decide) ?_
  refine v_iconst (v := (-1)) X dX7_count_166 (by decide) ?_
  have e9 : f_SM_count xa σ = (-1) := by simp only [f_SM_count, if_neg h1_0, if_neg h1_1, if_neg h1_2, if_neg h1_3, if_neg h1_4, if_neg h1_5, if_neg h1_6, if_neg h1_7]
  exact v_endI hend dX7_count_167 e9 rfl
end CLS
end
