section
-- ===== PART A: goes FIRST, ahead of the names: the tables' words, and 'selects' of the private methods out of them =====
/-- a private method of a class that the tables say can be made, by its rows of tables_1 -/
def lw_okq (q : MethodName × Nat) : Prop := (q.1.cls ≠ "java/lang/invoke/MethodHandle" ∧ q.1.cls ≠ "java/lang/invoke/VarHandle") ∧ Cond.instantiable q.1.cls q.2 ∈ tables_1 ∧ Cond.privateMethod q.1 ∈ tables_1 ∧ Cond.instanceMethod q.1 ∈ tables_1
theorem lw_p0 : lw_okq (⟨"TurfHeaps", "fewestCovered", "(II)I"⟩, 11) := ⟨⟨by decide +kernel, by decide +kernel⟩, List.mem_of_getElem? (i := 12) (by decide +kernel), List.mem_of_getElem? (i := 368) (by decide +kernel), List.mem_of_getElem? (i := 369) (by decide +kernel)⟩
theorem lw_p1 : lw_okq (⟨"TurfHeaps", "mostLeft", "(II)I"⟩, 11) := ⟨⟨by decide +kernel, by decide +kernel⟩, List.mem_of_getElem? (i := 12) (by decide +kernel), List.mem_of_getElem? (i := 447) (by decide +kernel), List.mem_of_getElem? (i := 448) (by decide +kernel)⟩
theorem lw_p2 : lw_okq (⟨"TurfHeaps", "learnRowValues", "(I)V"⟩, 11) := ⟨⟨by decide +kernel, by decide +kernel⟩, List.mem_of_getElem? (i := 12) (by decide +kernel), List.mem_of_getElem? (i := 458) (by decide +kernel), List.mem_of_getElem? (i := 459) (by decide +kernel)⟩
theorem lw_p3 : lw_okq (⟨"TurfHeaps", "leastNotReached", "(I)I"⟩, 11) := ⟨⟨by decide +kernel, by decide +kernel⟩, List.mem_of_getElem? (i := 12) (by decide +kernel), List.mem_of_getElem? (i := 462) (by decide +kernel), List.mem_of_getElem? (i := 463) (by decide +kernel)⟩
theorem lw_p4 : lw_okq (⟨"TurfHeaps", "winningTake", "(I)I"⟩, 11) := ⟨⟨by decide +kernel, by decide +kernel⟩, List.mem_of_getElem? (i := 12) (by decide +kernel), List.mem_of_getElem? (i := 466) (by decide +kernel), List.mem_of_getElem? (i := 467) (by decide +kernel)⟩
theorem lw_p5 : lw_okq (⟨"TurfHeaps", "toldOfHeap", "(II)I"⟩, 11) := ⟨⟨by decide +kernel, by decide +kernel⟩, List.mem_of_getElem? (i := 12) (by decide +kernel), List.mem_of_getElem? (i := 514) (by decide +kernel), List.mem_of_getElem? (i := 515) (by decide +kernel)⟩
theorem lw_p6 : lw_okq (⟨"TurfHeapsModel", "faultOf", "()I"⟩, 20) := ⟨⟨by decide +kernel, by decide +kernel⟩, List.mem_of_getElem? (i := 518) (by decide +kernel), List.mem_of_getElem? (i := 615) (by decide +kernel), List.mem_of_getElem? (i := 616) (by decide +kernel)⟩
theorem lw_p7 : lw_okq (⟨"TurfHeapsModel", "goWeeks", "()I"⟩, 20) := ⟨⟨by decide +kernel, by decide +kernel⟩, List.mem_of_getElem? (i := 518) (by decide +kernel), List.mem_of_getElem? (i := 623) (by decide +kernel), List.mem_of_getElem? (i := 624) (by decide +kernel)⟩
theorem lw_p8 : lw_okq (⟨"TurfHeapsModel", "asNow", "()V"⟩, 20) := ⟨⟨by decide +kernel, by decide +kernel⟩, List.mem_of_getElem? (i := 518) (by decide +kernel), List.mem_of_getElem? (i := 627) (by decide +kernel), List.mem_of_getElem? (i := 628) (by decide +kernel)⟩
theorem lw_p9 : lw_okq (⟨"TurfHeapsModel", "endNight", "()I"⟩, 20) := ⟨⟨by decide +kernel, by decide +kernel⟩, List.mem_of_getElem? (i := 518) (by decide +kernel), List.mem_of_getElem? (i := 631) (by decide +kernel), List.mem_of_getElem? (i := 632) (by decide +kernel)⟩
theorem lw_p10 : lw_okq (⟨"TurfHeapsModel", "burn", "()I"⟩, 20) := ⟨⟨by decide +kernel, by decide +kernel⟩, List.mem_of_getElem? (i := 518) (by decide +kernel), List.mem_of_getElem? (i := 635) (by decide +kernel), List.mem_of_getElem? (i := 636) (by decide +kernel)⟩
theorem lw_p11 : lw_okq (⟨"TurfHeapsModel", "turf", "(II)I"⟩, 20) := ⟨⟨by decide +kernel, by decide +kernel⟩, List.mem_of_getElem? (i := 518) (by decide +kernel), List.mem_of_getElem? (i := 648) (by decide +kernel), List.mem_of_getElem? (i := 649) (by decide +kernel)⟩
theorem lw_p12 : lw_okq (⟨"TurfHeapsModel", "kindle", "(I)I"⟩, 20) := ⟨⟨by decide +kernel, by decide +kernel⟩, List.mem_of_getElem? (i := 518) (by decide +kernel), List.mem_of_getElem? (i := 652) (by decide +kernel), List.mem_of_getElem? (i := 653) (by decide +kernel)⟩
theorem lw_p13 : lw_okq (⟨"TurfHeapsModel", "watch", "(I)I"⟩, 20) := ⟨⟨by decide +kernel, by decide +kernel⟩, List.mem_of_getElem? (i := 518) (by decide +kernel), List.mem_of_getElem? (i := 656) (by decide +kernel), List.mem_of_getElem? (i := 657) (by decide +kernel)⟩
theorem lw_p14 : lw_okq (⟨"TurfHeapsModel", "stack", "(II)I"⟩, 20) := ⟨⟨by decide +kernel, by decide +kernel⟩, List.mem_of_getElem? (i := 518) (by decide +kernel), List.mem_of_getElem? (i := 660) (by decide +kernel), List.mem_of_getElem? (i := 661) (by decide +kernel)⟩
theorem lw_p15 : lw_okq (⟨"TurfHeapsModel", "barOfWeeks", "()I"⟩, 20) := ⟨⟨by decide +kernel, by decide +kernel⟩, List.mem_of_getElem? (i := 518) (by decide +kernel), List.mem_of_getElem? (i := 668) (by decide +kernel), List.mem_of_getElem? (i := 669) (by decide +kernel)⟩
def lw_privs_1 : List (MethodName × Nat) := [(⟨"TurfHeaps", "fewestCovered", "(II)I"⟩, 11), (⟨"TurfHeaps", "mostLeft", "(II)I"⟩, 11), (⟨"TurfHeaps", "learnRowValues", "(I)V"⟩, 11), (⟨"TurfHeaps", "leastNotReached", "(I)I"⟩, 11), (⟨"TurfHeaps", "winningTake", "(I)I"⟩, 11), (⟨"TurfHeaps", "toldOfHeap", "(II)I"⟩, 11), (⟨"TurfHeapsModel", "faultOf", "()I"⟩, 20), (⟨"TurfHeapsModel", "goWeeks", "()I"⟩, 20), (⟨"TurfHeapsModel", "asNow", "()V"⟩, 20), (⟨"TurfHeapsModel", "endNight", "()I"⟩, 20), (⟨"TurfHeapsModel", "burn", "()I"⟩, 20), (⟨"TurfHeapsModel", "turf", "(II)I"⟩, 20), (⟨"TurfHeapsModel", "kindle", "(I)I"⟩, 20), (⟨"TurfHeapsModel", "watch", "(I)I"⟩, 20), (⟨"TurfHeapsModel", "stack", "(II)I"⟩, 20), (⟨"TurfHeapsModel", "barOfWeeks", "()I"⟩, 20)]
theorem lw_r1 : ∀ q ∈ lw_privs_1, lw_okq q := List.forall_mem_cons.mpr ⟨lw_p0, List.forall_mem_cons.mpr ⟨lw_p1, List.forall_mem_cons.mpr ⟨lw_p2, List.forall_mem_cons.mpr ⟨lw_p3, List.forall_mem_cons.mpr ⟨lw_p4, List.forall_mem_cons.mpr ⟨lw_p5, List.forall_mem_cons.mpr ⟨lw_p6, List.forall_mem_cons.mpr ⟨lw_p7, List.forall_mem_cons.mpr ⟨lw_p8, List.forall_mem_cons.mpr ⟨lw_p9, List.forall_mem_cons.mpr ⟨lw_p10, List.forall_mem_cons.mpr ⟨lw_p11, List.forall_mem_cons.mpr ⟨lw_p12, List.forall_mem_cons.mpr ⟨lw_p13, List.forall_mem_cons.mpr ⟨lw_p14, List.forall_mem_cons.mpr ⟨lw_p15, fun _ h => absurd h List.not_mem_nil⟩⟩⟩⟩⟩⟩⟩⟩⟩⟩⟩⟩⟩⟩⟩⟩
theorem lw_p16 : lw_okq (⟨"TurfHeapsModel", "chainOf", "(II)I"⟩, 20) := ⟨⟨by decide +kernel, by decide +kernel⟩, List.mem_of_getElem? (i := 518) (by decide +kernel), List.mem_of_getElem? (i := 684) (by decide +kernel), List.mem_of_getElem? (i := 685) (by decide +kernel)⟩
theorem lw_p17 : lw_okq (⟨"TurfHeapsModel", "canBeDrawn", "(II)Z"⟩, 20) := ⟨⟨by decide +kernel, by decide +kernel⟩, List.mem_of_getElem? (i := 518) (by decide +kernel), List.mem_of_getElem? (i := 697) (by decide +kernel), List.mem_of_getElem? (i := 698) (by decide +kernel)⟩
theorem lw_p18 : lw_okq (⟨"TurfHeapsModel", "isFit", "(I)Z"⟩, 20) := ⟨⟨by decide +kernel, by decide +kernel⟩, List.mem_of_getElem? (i := 518) (by decide +kernel), List.mem_of_getElem? (i := 717) (by decide +kernel), List.mem_of_getElem? (i := 718) (by decide +kernel)⟩
theorem lw_p19 : lw_okq (⟨"TurfHeapsModel", "layWorth", "(I)V"⟩, 20) := ⟨⟨by decide +kernel, by decide +kernel⟩, List.mem_of_getElem? (i := 518) (by decide +kernel), List.mem_of_getElem? (i := 733) (by decide +kernel), List.mem_of_getElem? (i := 734) (by decide +kernel)⟩
def lw_privs_2 : List (MethodName × Nat) := [(⟨"TurfHeapsModel", "chainOf", "(II)I"⟩, 20), (⟨"TurfHeapsModel", "canBeDrawn", "(II)Z"⟩, 20), (⟨"TurfHeapsModel", "isFit", "(I)Z"⟩, 20), (⟨"TurfHeapsModel", "layWorth", "(I)V"⟩, 20)]
theorem lw_r2 : ∀ q ∈ lw_privs_2, lw_okq q := List.forall_mem_cons.mpr ⟨lw_p16, List.forall_mem_cons.mpr ⟨lw_p17, List.forall_mem_cons.mpr ⟨lw_p18, List.forall_mem_cons.mpr ⟨lw_p19, fun _ h => absurd h List.not_mem_nil⟩⟩⟩⟩
def lw_privs : List (MethodName × Nat) := lw_privs_1 ++ (lw_privs_2)
def lw_tbl : List Cond := k2_sels lw_privs ++ tables_1
theorem lw_privs_ok : ∀ q ∈ lw_privs, lw_okq q := by
  show ∀ q ∈ lw_privs_1 ++ (lw_privs_2), lw_okq q
  exact List.forall_mem_append.mpr ⟨lw_r1, lw_r2⟩
end
section
/-! names out of the printed text: classes, fields, methods (no pool, no word lists) -/
def RX0 : String := "TurfHeaps$Clearing"
def TX0 : u_T := fun k => match k with
  | 0 => ("TurfHeaps$Clearing", "cells", "[I", true)
  | 1 => ("TurfHeaps$Clearing", "heats", "[I", true)
  | 2 => ("TurfHeaps$Clearing", "turfs", "[I", true)
  | 3 => ("TurfHeaps$Clearing", "known", "I", false)
  | 4 => ("TurfHeaps$Clearing", "drawn", "I", false)
  | 5 => ("TurfHeaps$Clearing", "watched", "I", false)
  | 6 => ("TurfHeaps$Clearing", "burners", "I", false)
  | _ => ("TurfHeaps$Clearing", "night", "I", false)
def tyX0 : Nat → FieldType := fun k => match k with
  | 0 => .array .int
  | 1 => .array .int
  | 2 => .array .int
  | 3 => .int
  | 4 => .int
  | 5 => .int
  | 6 => .int
  | _ => .int
abbrev wsX00 : List Cond := u_ws RX0 TX0 8
theorem nmX0 : ∀ a, a < 8 → ∀ b, b < 8 → a ≠ b → (TX0 a).2.1 ≠ (TX0 b).2.1 := by decide +kernel
theorem tyX0_ok : ∀ k, k < 8 → parseFieldDescriptor (TX0 k).2.2.1 = some (tyX0 k) := by decide +kernel
abbrev cX0_init : ByteArray := prog_2_method_1_code
def yX0_init : MethodName := ⟨RX0, "<init>", "()V"⟩
abbrev cX0_copyFrom : ByteArray := prog_2_method_2_code
def yX0_copyFrom : MethodName := ⟨RX0, "copyFrom", "(LTurfHeaps$Clearing;)V"⟩
abbrev cX0_put : ByteArray := prog_2_method_3_code
def yX0_put : MethodName := ⟨RX0, "put", "(IIII)V"⟩
abbrev cX0_isAlight : ByteArray := prog_2_method_4_code
def yX0_isAlight : MethodName := ⟨RX0, "isAlight", "(I)Z"⟩
abbrev cX0_isTakenByAnother : ByteArray := prog_2_method_5_code
def yX0_isTakenByAnother : MethodName := ⟨RX0, "isTakenByAnother", "(II)Z"⟩
abbrev cX0_heatOfAll : ByteArray := prog_2_method_6_code
def yX0_heatOfAll : MethodName := ⟨RX0, "heatOfAll", "()I"⟩
abbrev cX0_areNear : ByteArray := prog_2_method_7_code
def yX0_areNear : MethodName := ⟨RX0, "areNear", "(II)Z"⟩
abbrev cX0_countNear : ByteArray := prog_2_method_8_code
def yX0_countNear : MethodName := ⟨RX0, "countNear", "(II)I"⟩
abbrev cX0_flaringBy : ByteArray := prog_2_method_9_code
def yX0_flaringBy : MethodName := ⟨RX0, "flaringBy", "(II)I"⟩
abbrev cX0_canCatch : ByteArray := prog_2_method_10_code
def yX0_canCatch : MethodName := ⟨RX0, "canCatch", "(II)Z"⟩
abbrev cX0_reasonAgainst : ByteArray := prog_2_method_11_code
def yX0_reasonAgainst : MethodName := ⟨RX0, "reasonAgainst", "(III)I"⟩
abbrev cX0_perform : ByteArray := prog_2_method_12_code
def yX0_perform : MethodName := ⟨RX0, "perform", "(III)I"⟩
abbrev cX0_passNight : ByteArray := prog_2_method_13_code
def yX0_passNight : MethodName := ⟨RX0, "passNight", "()I"⟩
abbrev cX0_smoulder : ByteArray := prog_2_method_14_code
def yX0_smoulder : MethodName := ⟨RX0, "smoulder", "(I)Z"⟩
def RX1 : String := "TurfHeaps$DueRows"
def TX1 : u_T := fun k => match k with
  | 0 => ("TurfHeaps$DueRows", "nights", "[I", true)
  | 1 => ("TurfHeaps$DueRows", "days", "[I", true)
  | _ => ("TurfHeaps$DueRows", "byDay", "[I", true)
def tyX1 : Nat → FieldType := fun k => match k with
  | 0 => .array .int
  | 1 => .array .int
  | _ => .array .int
abbrev wsX10 : List Cond := u_ws RX1 TX1 3
theorem nmX1 : ∀ a, a < 3 → ∀ b, b < 3 → a ≠ b → (TX1 a).2.1 ≠ (TX1 b).2.1 := by decide +kernel
theorem tyX1_ok : ∀ k, k < 3 → parseFieldDescriptor (TX1 k).2.2.1 = some (tyX1 k) := by decide +kernel
abbrev cX1_init : ByteArray := prog_3_method_1_code
def yX1_init : MethodName := ⟨RX1, "<init>", "()V"⟩
abbrev cX1_readNights : ByteArray := prog_3_method_2_code
def yX1_readNights : MethodName := ⟨RX1, "readNights", "(II)Z"⟩
abbrev cX1_readDays : ByteArray := prog_3_method_3_code
def yX1_readDays : MethodName := ⟨RX1, "readDays", "(JI)Z"⟩
abbrev cX1_mostInTime : ByteArray := prog_3_method_4_code
def yX1_mostInTime : MethodName := ⟨RX1, "mostInTime", "(I)I"⟩
abbrev cX1_sortByDay : ByteArray := prog_3_method_5_code
def yX1_sortByDay : MethodName := ⟨RX1, "sortByDay", "(I)V"⟩
abbrev cX1_areInTime : ByteArray := prog_3_method_6_code
def yX1_areInTime : MethodName := ⟨RX1, "areInTime", "(II)Z"⟩
def RX2 : String := "TurfHeaps$Image"
def TX2 : u_T := fun k => match k with
  | 0 => ("TurfHeaps$Image", "clearing", "LTurfHeaps$Clearing;", true)
  | 1 => ("TurfHeaps$Image", "sights", "LTurfHeaps$Sights;", true)
  | _ => ("TurfHeaps$Image", "isKept", "Z", false)
def tyX2 : Nat → FieldType := fun k => match k with
  | 0 => .object "TurfHeaps$Clearing"
  | 1 => .object "TurfHeaps$Sights"
  | _ => .boolean
abbrev wsX20 : List Cond := u_ws RX2 TX2 3
theorem nmX2 : ∀ a, a < 3 → ∀ b, b < 3 → a ≠ b → (TX2 a).2.1 ≠ (TX2 b).2.1 := by decide +kernel
theorem tyX2_ok : ∀ k, k < 3 → parseFieldDescriptor (TX2 k).2.2.1 = some (tyX2 k) := by decide +kernel
abbrev cX2_init : ByteArray := prog_4_method_1_code
def yX2_init : MethodName := ⟨RX2, "<init>", "()V"⟩
def RX3 : String := "TurfHeaps$Pad"
def TX3 : u_T := fun k => match k with
  | 0 => ("TurfHeaps$Pad", "signs", "[I", true)
  | _ => ("TurfHeaps$Pad", "count", "I", false)
def tyX3 : Nat → FieldType := fun k => match k with
  | 0 => .array .int
  | _ => .int
abbrev wsX30 : List Cond := u_ws RX3 TX3 2
theorem nmX3 : ∀ a, a < 2 → ∀ b, b < 2 → a ≠ b → (TX3 a).2.1 ≠ (TX3 b).2.1 := by decide +kernel
theorem tyX3_ok : ∀ k, k < 2 → parseFieldDescriptor (TX3 k).2.2.1 = some (tyX3 k) := by decide +kernel
abbrev cX3_init : ByteArray := prog_5_method_1_code
def yX3_init : MethodName := ⟨RX3, "<init>", "()V"⟩
abbrev cX3_append : ByteArray := prog_5_method_2_code
def yX3_append : MethodName := ⟨RX3, "append", "(I)Z"⟩
abbrev cX3_faultPlace : ByteArray := prog_5_method_3_code
def yX3_faultPlace : MethodName := ⟨RX3, "faultPlace", "()I"⟩
abbrev cX3_isHeapLetter : ByteArray := prog_5_method_4_code
def yX3_isHeapLetter : MethodName := ⟨RX3, "isHeapLetter", "(I)Z"⟩
abbrev cX3_isCellLetter : ByteArray := prog_5_method_5_code
def yX3_isCellLetter : MethodName := ⟨RX3, "isCellLetter", "(I)Z"⟩
abbrev cX3_isDeed : ByteArray := prog_5_method_6_code
def yX3_isDeed : MethodName := ⟨RX3, "isDeed", "(I)Z"⟩
abbrev cX3_kindOf : ByteArray := prog_5_method_7_code
def yX3_kindOf : MethodName := ⟨RX3, "kindOf", "(I)I"⟩
def RX4 : String := "TurfHeaps$Sights"
def TX4 : u_T := fun k => match k with
  | 0 => ("TurfHeaps$Sights", "nights", "[I", true)
  | 1 => ("TurfHeaps$Sights", "colours", "[I", true)
  | _ => ("TurfHeaps$Sights", "count", "I", false)
def tyX4 : Nat → FieldType := fun k => match k with
  | 0 => .array .int
  | 1 => .array .int
  | _ => .int
abbrev wsX40 : List Cond := u_ws RX4 TX4 3
theorem nmX4 : ∀ a, a < 3 → ∀ b, b < 3 → a ≠ b → (TX4 a).2.1 ≠ (TX4 b).2.1 := by decide +kernel
theorem tyX4_ok : ∀ k, k < 3 → parseFieldDescriptor (TX4 k).2.2.1 = some (tyX4 k) := by decide +kernel
abbrev cX4_init : ByteArray := prog_6_method_1_code
def yX4_init : MethodName := ⟨RX4, "<init>", "()V"⟩
abbrev cX4_copyFrom : ByteArray := prog_6_method_2_code
def yX4_copyFrom : MethodName := ⟨RX4, "copyFrom", "(LTurfHeaps$Sights;)V"⟩
abbrev cX4_append : ByteArray := prog_6_method_3_code
def yX4_append : MethodName := ⟨RX4, "append", "(II)Z"⟩
abbrev cX4_fit : ByteArray := prog_6_method_4_code
def yX4_fit : MethodName := ⟨RX4, "fit", "(II)Z"⟩
abbrev cX4_listFitting : ByteArray := prog_6_method_5_code
def yX4_listFitting : MethodName := ⟨RX4, "listFitting", "([I)I"⟩
def RX5 : String := "TurfHeaps$Week"
def TX5 : u_T := fun k => match k with
  | 0 => ("TurfHeaps$Week", "trial", "LTurfHeaps$Clearing;", true)
  | 1 => ("TurfHeaps$Week", "acts", "I", false)
  | 2 => ("TurfHeaps$Week", "stoppedAct", "I", false)
  | 3 => ("TurfHeaps$Week", "stoppedWhy", "I", false)
  | 4 => ("TurfHeaps$Week", "flares", "I", false)
  | 5 => ("TurfHeaps$Week", "firstFlareAct", "I", false)
  | _ => ("TurfHeaps$Week", "firstFlareHeap", "I", false)
def tyX5 : Nat → FieldType := fun k => match k with
  | 0 => .object "TurfHeaps$Clearing"
  | 1 => .int
  | 2 => .int
  | 3 => .int
  | 4 => .int
  | 5 => .int
  | _ => .int
abbrev wsX50 : List Cond := u_ws RX5 TX5 7
theorem nmX5 : ∀ a, a < 7 → ∀ b, b < 7 → a ≠ b → (TX5 a).2.1 ≠ (TX5 b).2.1 := by decide +kernel
theorem tyX5_ok : ∀ k, k < 7 → parseFieldDescriptor (TX5 k).2.2.1 = some (tyX5 k) := by decide +kernel
abbrev cX5_init : ByteArray := prog_7_method_1_code
def yX5_init : MethodName := ⟨RX5, "<init>", "()V"⟩
abbrev cX5_tryOut : ByteArray := prog_7_method_2_code
def yX5_tryOut : MethodName := ⟨RX5, "tryOut", "(LTurfHeaps$Pad;LTurfHeaps$Clearing;)Z"⟩
abbrev cX5_begin : ByteArray := prog_7_method_3_code
def yX5_begin : MethodName := ⟨RX5, "begin", "(LTurfHeaps$Clearing;)V"⟩
abbrev cX5_noteFlares : ByteArray := prog_7_method_4_code
def yX5_noteFlares : MethodName := ⟨RX5, "noteFlares", "(I)V"⟩
def RX6 : String := "TurfHeaps"
def TX6 : u_T := fun k => match k with
  | 0 => ("TurfHeaps", "now", "LTurfHeaps$Clearing;", true)
  | 1 => ("TurfHeaps", "pad", "LTurfHeaps$Pad;", true)
  | 2 => ("TurfHeaps", "sights", "LTurfHeaps$Sights;", true)
  | 3 => ("TurfHeaps", "image0", "LTurfHeaps$Image;", true)
  | 4 => ("TurfHeaps", "image1", "LTurfHeaps$Image;", true)
  | 5 => ("TurfHeaps", "week", "LTurfHeaps$Week;", true)
  | 6 => ("TurfHeaps", "dueRows", "LTurfHeaps$DueRows;", true)
  | 7 => ("TurfHeaps", "fitting", "[I", true)
  | 8 => ("TurfHeaps", "colourCounts", "[I", true)
  | 9 => ("TurfHeaps", "rowValues", "[I", true)
  | _ => ("TurfHeaps", "rowValuesKnown", "I", false)
def tyX6 : Nat → FieldType := fun k => match k with
  | 0 => .object "TurfHeaps$Clearing"
  | 1 => .object "TurfHeaps$Pad"
  | 2 => .object "TurfHeaps$Sights"
  | 3 => .object "TurfHeaps$Image"
  | 4 => .object "TurfHeaps$Image"
  | 5 => .object "TurfHeaps$Week"
  | 6 => .object "TurfHeaps$DueRows"
  | 7 => .array .int
  | 8 => .array .int
  | 9 => .array .int
  | _ => .int
abbrev wsX60 : List Cond := u_ws RX6 TX6 11
theorem nmX6 : ∀ a, a < 11 → ∀ b, b < 11 → a ≠ b → (TX6 a).2.1 ≠ (TX6 b).2.1 := by decide +kernel
theorem tyX6_ok : ∀ k, k < 11 → parseFieldDescriptor (TX6 k).2.2.1 = some (tyX6 k) := by decide +kernel
abbrev cX6_init : ByteArray := prog_1_method_1_code
def yX6_init : MethodName := ⟨RX6, "<init>", "()V"⟩
abbrev cX6_heap : ByteArray := prog_1_method_2_code
def yX6_heap : MethodName := ⟨RX6, "heap", "(IIII)I"⟩
abbrev cX6_burners : ByteArray := prog_1_method_3_code
def yX6_burners : MethodName := ⟨RX6, "burners", "(I)I"⟩
abbrev cX6_say : ByteArray := prog_1_method_4_code
def yX6_say : MethodName := ⟨RX6, "say", "(I)I"⟩
abbrev cX6_wipe : ByteArray := prog_1_method_5_code
def yX6_wipe : MethodName := ⟨RX6, "wipe", "()I"⟩
abbrev cX6_fault : ByteArray := prog_1_method_6_code
def yX6_fault : MethodName := ⟨RX6, "fault", "()I"⟩
abbrev cX6_judge : ByteArray := prog_1_method_7_code
def yX6_judge : MethodName := ⟨RX6, "judge", "(I)I"⟩
abbrev cX6_done : ByteArray := prog_1_method_8_code
def yX6_done : MethodName := ⟨RX6, "done", "()I"⟩
abbrev cX6_behind : ByteArray := prog_1_method_9_code
def yX6_behind : MethodName := ⟨RX6, "behind", "(II)I"⟩
abbrev cX6_then : ByteArray := prog_1_method_10_code
def yX6_then : MethodName := ⟨RX6, "then", "(I)I"⟩
abbrev cX6_chain : ByteArray := prog_1_method_11_code
def yX6_chain : MethodName := ⟨RX6, "chain", "(I)I"⟩
abbrev cX6_cover : ByteArray := prog_1_method_12_code
def yX6_cover : MethodName := ⟨RX6, "cover", "(III)I"⟩
abbrev cX6_fewestCovered : ByteArray := prog_1_method_13_code
def yX6_fewestCovered : MethodName := ⟨RX6, "fewestCovered", "(II)I"⟩
abbrev cX6_due : ByteArray := prog_1_method_14_code
def yX6_due : MethodName := ⟨RX6, "due", "(IJII)I"⟩
abbrev cX6_nods : ByteArray := prog_1_method_15_code
def yX6_nods : MethodName := ⟨RX6, "nods", "(IIIIII)I"⟩
abbrev cX6_nightsAsleep : ByteArray := prog_1_method_16_code
def yX6_nightsAsleep : MethodName := ⟨RX6, "nightsAsleep", "(IIIII)I"⟩
abbrev cX6_firstNightAsleep : ByteArray := prog_1_method_17_code
def yX6_firstNightAsleep : MethodName := ⟨RX6, "firstNightAsleep", "(IIIII)I"⟩
abbrev cX6_isAsleep : ByteArray := prog_1_method_18_code
def yX6_isAsleep : MethodName := ⟨RX6, "isAsleep", "(III)Z"⟩
abbrev cX6_seen : ByteArray := prog_1_method_19_code
def yX6_seen : MethodName := ⟨RX6, "seen", "(II)I"⟩
abbrev cX6_forget : ByteArray := prog_1_method_20_code
def yX6_forget : MethodName := ⟨RX6, "forget", "()I"⟩
abbrev cX6_matter : ByteArray := prog_1_method_21_code
def yX6_matter : MethodName := ⟨RX6, "matter", "(I)I"⟩
abbrev cX6_ask : ByteArray := prog_1_method_22_code
def yX6_ask : MethodName := ⟨RX6, "ask", "(I)I"⟩
abbrev cX6_mostLeft : ByteArray := prog_1_method_23_code
def yX6_mostLeft : MethodName := ⟨RX6, "mostLeft", "(II)I"⟩
abbrev cX6_colourOf : ByteArray := prog_1_method_24_code
def yX6_colourOf : MethodName := ⟨RX6, "colourOf", "(III)I"⟩
abbrev cX6_takes : ByteArray := prog_1_method_25_code
def yX6_takes : MethodName := ⟨RX6, "takes", "(II)I"⟩
abbrev cX6_winningTake : ByteArray := prog_1_method_26_code
def yX6_winningTake : MethodName := ⟨RX6, "winningTake", "(I)I"⟩
abbrev cX6_learnRowValues : ByteArray := prog_1_method_27_code
def yX6_learnRowValues : MethodName := ⟨RX6, "learnRowValues", "(I)V"⟩
abbrev cX6_leastNotReached : ByteArray := prog_1_method_28_code
def yX6_leastNotReached : MethodName := ⟨RX6, "leastNotReached", "(I)I"⟩
abbrev cX6_lean : ByteArray := prog_1_method_29_code
def yX6_lean : MethodName := ⟨RX6, "lean", "(IIII)J"⟩
abbrev cX6_inLowestTerms : ByteArray := prog_1_method_30_code
def yX6_inLowestTerms : MethodName := ⟨RX6, "inLowestTerms", "(JJI)J"⟩
abbrev cX6_greatestDivisor : ByteArray := prog_1_method_31_code
def yX6_greatestDivisor : MethodName := ⟨RX6, "greatestDivisor", "(JJ)J"⟩
abbrev cX6_year : ByteArray := prog_1_method_32_code
def yX6_year : MethodName := ⟨RX6, "year", "(III)I"⟩
abbrev cX6_image : ByteArray := prog_1_method_33_code
def yX6_image : MethodName := ⟨RX6, "image", "(I)I"⟩
abbrev cX6_restore : ByteArray := prog_1_method_34_code
def yX6_restore : MethodName := ⟨RX6, "restore", "(I)I"⟩
abbrev cX6_told : ByteArray := prog_1_method_35_code
def yX6_told : MethodName := ⟨RX6, "told", "(I)I"⟩
abbrev cX6_toldOfHeap : ByteArray := prog_1_method_36_code
def yX6_toldOfHeap : MethodName := ⟨RX6, "toldOfHeap", "(II)I"⟩
abbrev cX6_isIn : ByteArray := prog_1_method_37_code
def yX6_isIn : MethodName := ⟨RX6, "isIn", "(JJJ)Z"⟩
abbrev cX6_isHeap : ByteArray := prog_1_method_38_code
def yX6_isHeap : MethodName := ⟨RX6, "isHeap", "(I)Z"⟩
abbrev cX6_hasBit : ByteArray := prog_1_method_39_code
def yX6_hasBit : MethodName := ⟨RX6, "hasBit", "(II)Z"⟩
def RX7 : String := "TurfHeapsModel"
def TX7 : u_T := fun k => match k with
  | 0 => ("TurfHeapsModel", "book", "[I", true)
  | 1 => ("TurfHeapsModel", "now", "[I", true)
  | 2 => ("TurfHeapsModel", "burners", "I", false)
  | 3 => ("TurfHeapsModel", "sights", "I", false)
  | 4 => ("TurfHeapsModel", "sight", "[I", true)
  | 5 => ("TurfHeapsModel", "signs", "I", false)
  | 6 => ("TurfHeapsModel", "pad", "[I", true)
  | 7 => ("TurfHeapsModel", "flared", "I", false)
  | 8 => ("TurfHeapsModel", "flaredAt", "I", false)
  | 9 => ("TurfHeapsModel", "flaredWhich", "I", false)
  | 10 => ("TurfHeapsModel", "fresh", "I", false)
  | 11 => ("TurfHeapsModel", "reason", "I", false)
  | 12 => ("TurfHeapsModel", "acts", "I", false)
  | 13 => ("TurfHeapsModel", "takes", "[I", true)
  | 14 => ("TurfHeapsModel", "dues", "[I", true)
  | 15 => ("TurfHeapsModel", "counts", "[I", true)
  | 16 => ("TurfHeapsModel", "worth", "[I", true)
  | 17 => ("TurfHeapsModel", "comes", "[Z", true)
  | 18 => ("TurfHeapsModel", "image", "[I", true)
  | _ => ("TurfHeapsModel", "isKept", "[Z", true)
def tyX7 : Nat → FieldType := fun k => match k with
  | 0 => .array .int
  | 1 => .array .int
  | 2 => .int
  | 3 => .int
  | 4 => .array .int
  | 5 => .int
  | 6 => .array .int
  | 7 => .int
  | 8 => .int
  | 9 => .int
  | 10 => .int
  | 11 => .int
  | 12 => .int
  | 13 => .array .int
  | 14 => .array .int
  | 15 => .array .int
  | 16 => .array .int
  | 17 => .array .boolean
  | 18 => .array .int
  | _ => .array .boolean
abbrev wsX70 : List Cond := u_ws RX7 TX7 20
theorem nmX7 : ∀ a, a < 20 → ∀ b, b < 20 → a ≠ b → (TX7 a).2.1 ≠ (TX7 b).2.1 := by decide +kernel
theorem tyX7_ok : ∀ k, k < 20 → parseFieldDescriptor (TX7 k).2.2.1 = some (tyX7 k) := by decide +kernel
abbrev cX7_init : ByteArray := prog_9_method_1_code
def yX7_init : MethodName := ⟨RX7, "<init>", "()V"⟩
abbrev cX7_in : ByteArray := prog_9_method_2_code
def yX7_in : MethodName := ⟨RX7, "in", "(III)Z"⟩
abbrev cX7_has : ByteArray := prog_9_method_3_code
def yX7_has : MethodName := ⟨RX7, "has", "(II)Z"⟩
abbrev cX7_bits : ByteArray := prog_9_method_4_code
def yX7_bits : MethodName := ⟨RX7, "bits", "(I)I"⟩
abbrev cX7_isHeap : ByteArray := prog_9_method_5_code
def yX7_isHeap : MethodName := ⟨RX7, "isHeap", "(I)Z"⟩
abbrev cX7_heap : ByteArray := prog_9_method_6_code
def yX7_heap : MethodName := ⟨RX7, "heap", "(IIII)I"⟩
abbrev cX7_burners : ByteArray := prog_9_method_7_code
def yX7_burners : MethodName := ⟨RX7, "burners", "(I)I"⟩
abbrev cX7_say : ByteArray := prog_9_method_8_code
def yX7_say : MethodName := ⟨RX7, "say", "(I)I"⟩
abbrev cX7_wipe : ByteArray := prog_9_method_9_code
def yX7_wipe : MethodName := ⟨RX7, "wipe", "()I"⟩
abbrev cX7_faultOf : ByteArray := prog_9_method_10_code
def yX7_faultOf : MethodName := ⟨RX7, "faultOf", "()I"⟩
abbrev cX7_fault : ByteArray := prog_9_method_11_code
def yX7_fault : MethodName := ⟨RX7, "fault", "()I"⟩
abbrev cX7_asNow : ByteArray := prog_9_method_12_code
def yX7_asNow : MethodName := ⟨RX7, "asNow", "()V"⟩
abbrev cX7_off : ByteArray := prog_9_method_13_code
def yX7_off : MethodName := ⟨RX7, "off", "(II)I"⟩
abbrev cX7_areNear : ByteArray := prog_9_method_14_code
def yX7_areNear : MethodName := ⟨RX7, "areNear", "(II)Z"⟩
abbrev cX7_stack : ByteArray := prog_9_method_15_code
def yX7_stack : MethodName := ⟨RX7, "stack", "(II)I"⟩
abbrev cX7_turf : ByteArray := prog_9_method_16_code
def yX7_turf : MethodName := ⟨RX7, "turf", "(II)I"⟩
abbrev cX7_kindle : ByteArray := prog_9_method_17_code
def yX7_kindle : MethodName := ⟨RX7, "kindle", "(I)I"⟩
abbrev cX7_watch : ByteArray := prog_9_method_18_code
def yX7_watch : MethodName := ⟨RX7, "watch", "(I)I"⟩
abbrev cX7_burn : ByteArray := prog_9_method_19_code
def yX7_burn : MethodName := ⟨RX7, "burn", "()I"⟩
abbrev cX7_endNight : ByteArray := prog_9_method_20_code
def yX7_endNight : MethodName := ⟨RX7, "endNight", "()I"⟩
abbrev cX7_goWeeks : ByteArray := prog_9_method_21_code
def yX7_goWeeks : MethodName := ⟨RX7, "goWeeks", "()I"⟩
abbrev cX7_judge : ByteArray := prog_9_method_22_code
def yX7_judge : MethodName := ⟨RX7, "judge", "(I)I"⟩
abbrev cX7_barOfWeeks : ByteArray := prog_9_method_23_code
def yX7_barOfWeeks : MethodName := ⟨RX7, "barOfWeeks", "()I"⟩
abbrev cX7_done : ByteArray := prog_9_method_24_code
def yX7_done : MethodName := ⟨RX7, "done", "()I"⟩
abbrev cX7_behind : ByteArray := prog_9_method_25_code
def yX7_behind : MethodName := ⟨RX7, "behind", "(II)I"⟩
abbrev cX7_then : ByteArray := prog_9_method_26_code
def yX7_then : MethodName := ⟨RX7, "then", "(I)I"⟩
abbrev cX7_chainOf : ByteArray := prog_9_method_27_code
def yX7_chainOf : MethodName := ⟨RX7, "chainOf", "(II)I"⟩
abbrev cX7_chain : ByteArray := prog_9_method_28_code
def yX7_chain : MethodName := ⟨RX7, "chain", "(I)I"⟩
abbrev cX7_cover : ByteArray := prog_9_method_29_code
def yX7_cover : MethodName := ⟨RX7, "cover", "(III)I"⟩
abbrev cX7_canBeDrawn : ByteArray := prog_9_method_30_code
def yX7_canBeDrawn : MethodName := ⟨RX7, "canBeDrawn", "(II)Z"⟩
abbrev cX7_due : ByteArray := prog_9_method_31_code
def yX7_due : MethodName := ⟨RX7, "due", "(IJII)I"⟩
abbrev cX7_nods : ByteArray := prog_9_method_32_code
def yX7_nods : MethodName := ⟨RX7, "nods", "(IIIIII)I"⟩
abbrev cX7_seen : ByteArray := prog_9_method_33_code
def yX7_seen : MethodName := ⟨RX7, "seen", "(II)I"⟩
abbrev cX7_forget : ByteArray := prog_9_method_34_code
def yX7_forget : MethodName := ⟨RX7, "forget", "()I"⟩
abbrev cX7_colour : ByteArray := prog_9_method_35_code
def yX7_colour : MethodName := ⟨RX7, "colour", "(II)I"⟩
abbrev cX7_isFit : ByteArray := prog_9_method_36_code
def yX7_isFit : MethodName := ⟨RX7, "isFit", "(I)Z"⟩
abbrev cX7_matter : ByteArray := prog_9_method_37_code
def yX7_matter : MethodName := ⟨RX7, "matter", "(I)I"⟩
abbrev cX7_ask : ByteArray := prog_9_method_38_code
def yX7_ask : MethodName := ⟨RX7, "ask", "(I)I"⟩
abbrev cX7_layWorth : ByteArray := prog_9_method_39_code
def yX7_layWorth : MethodName := ⟨RX7, "layWorth", "(I)V"⟩
abbrev cX7_takes : ByteArray := prog_9_method_40_code
def yX7_takes : MethodName := ⟨RX7, "takes", "(II)I"⟩
abbrev cX7_lowest : ByteArray := prog_9_method_41_code
def yX7_lowest : MethodName := ⟨RX7, "lowest", "(JJI)J"⟩
abbrev cX7_lean : ByteArray := prog_9_method_42_code
def yX7_lean : MethodName := ⟨RX7, "lean", "(IIII)J"⟩
abbrev cX7_year : ByteArray := prog_9_method_43_code
def yX7_year : MethodName := ⟨RX7, "year", "(III)I"⟩
abbrev cX7_image : ByteArray := prog_9_method_44_code
def yX7_image : MethodName := ⟨RX7, "image", "(I)I"⟩
abbrev cX7_restore : ByteArray := prog_9_method_45_code
def yX7_restore : MethodName := ⟨RX7, "restore", "(I)I"⟩
abbrev cX7_told : ByteArray := prog_9_method_46_code
def yX7_told : MethodName := ⟨RX7, "told", "(I)I"⟩
def RJ6 : String := "java/lang/Integer"
def TJ6 : u_T := fun k => match k with
  | _ => ("", "", "", false)
def tyJ6 : Nat → FieldType := fun k => match k with
  | _ => .int
abbrev wsJ60 : List Cond := u_ws RJ6 TJ6 0
theorem nmJ6 : ∀ a, a < 0 → ∀ b, b < 0 → a ≠ b → (TJ6 a).2.1 ≠ (TJ6 b).2.1 := by decide +kernel
theorem tyJ6_ok : ∀ k, k < 0 → parseFieldDescriptor (TJ6 k).2.2.1 = some (tyJ6 k) := by decide +kernel
abbrev cJ6_bitCount_0f7a4 : ByteArray := prog_10_method_49_code
def yJ6_bitCount_0f7a4 : MethodName := ⟨RJ6, "bitCount", "(I)I"⟩
def RJ9 : String := "java/lang/Math"
def TJ9 : u_T := fun k => match k with
  | _ => ("", "", "", false)
def tyJ9 : Nat → FieldType := fun k => match k with
  | _ => .int
abbrev wsJ90 : List Cond := u_ws RJ9 TJ9 0
theorem nmJ9 : ∀ a, a < 0 → ∀ b, b < 0 → a ≠ b → (TJ9 a).2.1 ≠ (TJ9 b).2.1 := by decide +kernel
theorem tyJ9_ok : ∀ k, k < 0 → parseFieldDescriptor (TJ9 k).2.2.1 = some (tyJ9 k) := by decide +kernel
abbrev cJ9_abs_0f7a4 : ByteArray := prog_11_method_59_code
def yJ9_abs_0f7a4 : MethodName := ⟨RJ9, "abs", "(I)I"⟩
abbrev cJ9_max_7cf53 : ByteArray := prog_11_method_65_code
def yJ9_max_7cf53 : MethodName := ⟨RJ9, "max", "(II)I"⟩
abbrev cJ9_min_7cf53 : ByteArray := prog_11_method_69_code
def yJ9_min_7cf53 : MethodName := ⟨RJ9, "min", "(II)I"⟩
def RL : String := "TurfHeapsLaw"
abbrev cL_law : ByteArray := code
def yL_law : MethodName := ⟨RL, "law", "([I)Z"⟩
abbrev vwCl : List vw_C := [(RX0, TX0, 8), (RX1, TX1, 3), (RX2, TX2, 3), (RX3, TX3, 2), (RX4, TX4, 3), (RX5, TX5, 7), (RX6, TX6, 11), (RX7, TX7, 20)]
end
section
/-! abstract cells, abstract heaps: addresses are places 0 .. 49 of the world; 50 is the script -/
abbrev AC : Type := (Bool × Nat × (Nat → Int32)) ⊕ (Nat × List Value)
abbrev HP : Type := Nat → AC
abbrev MY : Type := String × ByteArray × Nat × Option FieldType × Option (Nat × (Nat → Int32))
def cv (ad : Nat → Nat) : Value → Value
  | .ref k => .ref (ad k)
  | .int x => .int x
  | .long x => .long x
  | .float x => .float x
  | .double x => .double x
  | .null => .null
  | .retAddr x => .retAddr x
def cE (ad : Nat → Nat) (cI cZ : ClassId) : AC → va_E
  | .inl (z, n, f) => .inl (if z then cZ else cI, n, .inl f)
  | .inr (ci, fs) => .inr (ci, fs.map (cv ad))
def mkW (ad : Nat → Nat) (cI cZ : ClassId) (hp : HP) : va_W := (List.range 50).map (fun k => (ad k, cE ad cI cZ (hp k)))
def hup (hp : HP) (k : Nat) (x : AC) : HP := fun j => if j = k then x else hp j
theorem cv_cat (ad : Nat → Nat) (v : Value) : (cv ad v).category = v.category := by cases v <;> rfl
theorem mkW_get {ad : Nat → Nat} {cI cZ : ClassId} {hp : HP} {k : Nat} (h : k < 50) : (mkW ad cI cZ hp)[k]? = some (ad k, cE ad cI cZ (hp k)) := by
  simp [mkW, List.getElem?_map, List.getElem?_range h]
theorem mkW_inv {ad : Nat → Nat} {cI cZ : ClassId} {hp : HP} {k : Nat} {q : Nat × va_E} (h : (mkW ad cI cZ hp)[k]? = some q) : k < 50 ∧ q = (ad k, cE ad cI cZ (hp k)) := by
  have hk : k < 50 := by
    have := (List.getElem?_eq_some_iff.mp h).1
    simpa [mkW] using this
  rw [mkW_get hk] at h
  exact ⟨hk, (Option.some.inj h).symm⟩
theorem mkW_set {ad : Nat → Nat} {cI cZ : ClassId} {hp : HP} {k : Nat} {x : AC} (h : k < 50) : (mkW ad cI cZ hp).set k (ad k, cE ad cI cZ x) = mkW ad cI cZ (hup hp k x) := by
  apply List.ext_getElem?
  intro i
  by_cases hi : i = k
  · subst hi
    have hl : i < (mkW ad cI cZ hp).length := by simpa [mkW] using h
    rw [List.getElem?_set_self hl, mkW_get h]
    simp [hup]
  · rw [List.getElem?_set_ne (Ne.symm hi)]
    by_cases hlt : i < 50
    · rw [mkW_get hlt, mkW_get hlt]
      simp [hup, hi]
    · have h1 : (mkW ad cI cZ hp)[i]? = none := by simp [mkW]; omega
      have h2 : (mkW ad cI cZ (hup hp k x))[i]? = none := by simp [mkW]; omega
      rw [h1, h2]
theorem mkW_D {ad : Nat → Nat} {cI cZ : ClassId} {hp hp' : HP} {A : Nat → Prop} (h : va_D A (mkW ad cI cZ hp)) : va_D A (mkW ad cI cZ hp') := by
  refine ⟨fun i j p q hi hj e => ?_, fun k q hk => ?_⟩
  · obtain ⟨h1, rfl⟩ := mkW_inv hi
    obtain ⟨h2, rfl⟩ := mkW_inv hj
    exact h.1 i j _ _ (mkW_get h1) (mkW_get h2) e
  · obtain ⟨h1, rfl⟩ := mkW_inv hk
    exact h.2 k (ad k, cE ad cI cZ (hp k)) (mkW_get h1)
theorem mkW_A {ad : Nat → Nat} {cI cZ : ClassId} {hp hp' : HP} {sz q : Nat} (h : va_A (mkW ad cI cZ hp) sz q) : va_A (mkW ad cI cZ hp') sz q := by
  rcases h with ⟨k, e, h⟩ | h
  · obtain ⟨h1, h2⟩ := mkW_inv h
    refine Or.inl ⟨k, cE ad cI cZ (hp' k), ?_⟩
    rw [mkW_get h1]
    cases h2
    rfl
  · exact Or.inr h
/-! the words of the tables that go into every method; the words of nest mates, beside them -/
def gtbl : List Cond := lw_tbl.filter goodWord
def nests : List (String × Nat × MethodName × String) := [(RX3, 30, yX6_isIn, RX6), (RX0, 43, yX6_hasBit, RX6), (RX5, 81, yX6_hasBit, RX6), (RX1, 37, yX6_hasBit, RX6), (RX4, 22, yX6_colourOf, RX6)]
theorem gtbl_in {w : Cond} (i : Nat) (h : lw_tbl[i]? = some w) (hg : goodWord w = true) : w ∈ gtbl := List.mem_filter.mpr ⟨List.mem_of_getElem? h, hg⟩
theorem gtbl_lw {w : Cond} (h : w ∈ gtbl) : w ∈ lw_tbl := (List.mem_filter.mp h).1
theorem gtbl_good {w : Cond} (h : w ∈ gtbl) : (w.onTables && w.keeps) = true ∨ ∃ ty, w = .arrayClass ty := good_of_word (List.mem_filter.mp h).2
/-! locals -/
def alf (ad : Nat → Nat) : Nat → List Value → List (Nat × Value)
  | _, [] => []
  | i, .null :: r => alf ad (i + 1) r
  | i, v :: r => (i, cv ad v) :: alf ad (i + 1) r
theorem alf_cons {ad : Nat → Nat} {i : Nat} {v : Value} {r : List Value} (h : v ≠ .null) : alf ad i (v :: r) = (i, cv ad v) :: alf ad (i + 1) r := by
  cases v <;> first | rfl | exact absurd rfl h
theorem alf_get {ad : Nat → Nat} : ∀ (l : List Value) (i k : Nat) (v : Value), l[k]? = some v → v ≠ .null → (i + k, cv ad v) ∈ alf ad i l
  | [], i, k, v, h, _ => by simp at h
  | a :: r, i, 0, v, h, hv => by
    simp at h
    subst h
    rw [alf_cons hv]
    exact List.mem_cons_self
  | a :: r, i, k + 1, v, h, hv => by
    rw [List.getElem?_cons_succ] at h
    have := alf_get (ad := ad) r (i + 1) k v h hv
    rw [show i + (k + 1) = i + 1 + k by omega]
    by_cases ha : a = .null
    · subst ha
      exact this
    · rw [alf_cons ha]
      exact List.mem_cons_of_mem _ this
theorem alf_mem {ad : Nat → Nat} : ∀ (l : List Value) (i : Nat) (q : Nat × Value), q ∈ alf ad i l → ∃ (k : Nat) (v : Value), l[k]? = some v ∧ v ≠ .null ∧ q = (i + k, cv ad v)
  | [], i, q, h => by simp [alf] at h
  | a :: r, i, q, h => by
    by_cases ha : a = .null
    · subst ha
      obtain ⟨k, v, h1, h2, h3⟩ := alf_mem r (i + 1) q h
      exact ⟨k + 1, v, by rw [List.getElem?_cons_succ]; exact h1, h2, by rw [h3, show i + 1 + k = i + (k + 1) by omega]⟩
    · rw [alf_cons ha] at h
      rcases List.mem_cons.mp h with h | h
      · exact ⟨0, a, rfl, ha, h⟩
      · obtain ⟨k, v, h1, h2, h3⟩ := alf_mem r (i + 1) q h
        exact ⟨k + 1, v, by rw [List.getElem?_cons_succ]; exact h1, h2, by rw [h3, show i + 1 + k = i + (k + 1) by omega]⟩
def lvr (ad : Nat → Nat) (ls : Array Slot) (n : Nat) (l : List Value) : Prop := lv_has ls n (alf ad 0 l)
theorem lvr_at {ad : Nat → Nat} {ls : Array Slot} {n : Nat} {l : List Value} (h : lvr ad ls n l) {k : Nat} {v : Value} (hk : l[k]? = some v) (hv : v ≠ .null) : ls[k]? = some (.val (cv ad v)) := by
  have := h.2.2 _ (alf_get (ad := ad) l 0 k v hk hv)
  simpa using this
def clrV : Value → Value
  | .long _ => .null
  | .double _ => .null
  | v => v
def stI : List Value → Nat → Value → List Value
  | [], _, _ => []
  | _ :: l, 0, v => v :: l
  | a :: l, 1, v => clrV a :: stI l 0 v
  | a :: l, n + 2, v => a :: stI l (n + 1) v
def stL : List Value → Nat → Value → List Value
  | [], _, _ => []
  | [_], 0, v => [v]
  | _ :: _ :: l, 0, v => v :: .null :: l
  | a :: l, 1, v => clrV a :: stL l 0 v
  | a :: l, n + 2, v => a :: stL l (n + 1) v
theorem clrV_eq {a v : Value} (h : clrV a = v) (hv : v ≠ .null) : a = v ∧ ¬ v.category = 2 := by
  cases a <;> first | (subst h; exact ⟨rfl, by simp [clrV, Value.category]⟩) | exact absurd h.symm hv
theorem stI_get : ∀ (l : List Value) (i k : Nat) (x v : Value), (stI l i x)[k]? = some v → v ≠ .null → (k = i ∧ v = x) ∨ (k ≠ i ∧ l[k]? = some v ∧ ¬ (k + 1 = i ∧ v.category = 2))
  | [], i, k, x, v, h, _ => by simp [stI] at h
  | a :: l, 0, 0, x, v, h, hv => by
    simp [stI] at h
    exact Or.inl ⟨rfl, h.symm⟩
  | a :: l, 0, k + 1, x, v, h, hv => by
    refine Or.inr ⟨by omega, ?_, by omega⟩
    simpa [stI] using h
  | a :: l, 1, 0, x, v, h, hv => by
    simp [stI] at h
    obtain ⟨h1, h2⟩ := clrV_eq h hv
    subst h1
    exact Or.inr ⟨by omega, rfl, fun q => h2 q.2⟩
  | a :: l, 1, k + 1, x, v, h, hv => by
    rw [stI, List.getElem?_cons_succ] at h
    rcases stI_get l 0 k x v h hv with ⟨h1, h2⟩ | ⟨h1, h2, h3⟩
    · exact Or.inl ⟨by omega, h2⟩
    · exact Or.inr ⟨by omega, by rw [List.getElem?_cons_succ]; exact h2, by omega⟩
  | a :: l, n + 2, 0, x, v, h, hv => by
    simp [stI] at h
    exact Or.inr ⟨by omega, by simp [h], by omega⟩
  | a :: l, n + 2, k + 1, x, v, h, hv => by
    rw [stI, List.getElem?_cons_succ] at h
    rcases stI_get l (n + 1) k x v h hv with ⟨h1, h2⟩ | ⟨h1, h2, h3⟩
    · exact Or.inl ⟨by omega, h2⟩
    · exact Or.inr ⟨by omega, by rw [List.getElem?_cons_succ]; exact h2, fun q => h3 ⟨by omega, q.2⟩⟩
theorem stL_get : ∀ (l : List Value) (i k : Nat) (x v : Value), (stL l i x)[k]? = some v → v ≠ .null → (k = i ∧ v = x) ∨ (k ≠ i ∧ k ≠ i + 1 ∧ l[k]? = some v ∧ ¬ (k + 1 = i ∧ v.category = 2))
  | [], i, k, x, v, h, _ => by simp [stL] at h
  | [a], 0, 0, x, v, h, hv => by
    simp [stL] at h
    exact Or.inl ⟨rfl, h.symm⟩
  | [a], 0, k + 1, x, v, h, hv => by simp [stL] at h
  | a :: b :: l, 0, 0, x, v, h, hv => by
    simp [stL] at h
    exact Or.inl ⟨rfl, h.symm⟩
  | a :: b :: l, 0, 1, x, v, h, hv => by
    simp [stL] at h
    exact absurd h.symm hv
  | a :: b :: l, 0, k + 2, x, v, h, hv => by
    refine Or.inr ⟨by omega, by omega, ?_, by omega⟩
    simpa [stL] using h
  | [a], 1, 0, x, v, h, hv => by
    simp [stL] at h
    obtain ⟨h1, h2⟩ := clrV_eq h hv
    subst h1
    exact Or.inr ⟨by omega, by omega, rfl, fun q => h2 q.2⟩
  | [a], 1, k + 1, x, v, h, hv => by simp [stL] at h
  | a :: b :: l, 1, 0, x, v, h, hv => by
    rw [stL] at h
    simp at h
    obtain ⟨h1, h2⟩ := clrV_eq h hv
    subst h1
    exact Or.inr ⟨by omega, by omega, rfl, fun q => h2 q.2⟩
  | a :: b :: l, 1, k + 1, x, v, h, hv => by
    rw [stL, List.getElem?_cons_succ] at h
    rcases stL_get (b :: l) 0 k x v h hv with ⟨h1, h2⟩ | ⟨h1, h2, h3, h4⟩
    · exact Or.inl ⟨by omega, h2⟩
    · exact Or.inr ⟨by omega, by omega, by rw [List.getElem?_cons_succ]; exact h3, by omega⟩
  | a :: l, n + 2, 0, x, v, h, hv => by
    have h' : a = v := by cases l <;> simpa [stL] using h
    exact Or.inr ⟨by omega, by omega, by simp [h'], by omega⟩
  | a :: l, n + 2, k + 1, x, v, h, hv => by
    have h' : (stL l (n + 1) x)[k]? = some v := by cases l <;> simpa [stL] using h
    rcases stL_get l (n + 1) k x v h' hv with ⟨h1, h2⟩ | ⟨h1, h2, h3, h4⟩
    · exact Or.inl ⟨by omega, h2⟩
    · exact Or.inr ⟨by omega, by omega, by rw [List.getElem?_cons_succ]; exact h3, fun q => h4 ⟨by omega, q.2⟩⟩
theorem lvr_st1 {ad : Nat → Nat} {ls : Array Slot} {n i : Nat} {l : List Value} {x : Value} (h : lv_has ls n ((i, cv ad x) :: (alf ad 0 l).filter (fun q => !(q.1 == i) && !(q.1 + 1 == i && q.2.category == 2)))) : lvr ad ls n (stI l i x) := by
  refine ⟨h.1, h.2.1, fun q hq => ?_⟩
  obtain ⟨k, v, h1, h2, rfl⟩ := alf_mem _ _ _ hq
  rw [Nat.zero_add]
  rcases stI_get l i k x v h1 h2 with ⟨rfl, rfl⟩ | ⟨h3, h4, h5⟩
  · exact h.2.2 _ List.mem_cons_self
  · refine h.2.2 (k, cv ad v) (List.mem_cons_of_mem _ (List.mem_filter.mpr ⟨?_, ?_⟩))
    · have := alf_get (ad := ad) l 0 k v h4 h2
      simpa using this
    · simp only [Bool.and_eq_true, Bool.not_eq_true', beq_eq_false_iff_ne, Bool.and_eq_false_iff, cv_cat]
      refine ⟨h3, ?_⟩
      by_cases hk : k + 1 = i
      · exact Or.inr (fun q => h5 ⟨hk, q⟩)
      · exact Or.inl hk
theorem lvr_st2 {ad : Nat → Nat} {ls : Array Slot} {n i : Nat} {l : List Value} {x : Value} (h : lv_has ls n ((i, cv ad x) :: (alf ad 0 l).filter (fun q => !(q.1 == i) && (!(q.1 == i + 1) && !(q.1 + 1 == i && q.2.category == 2))))) : lvr ad ls n (stL l i x) := by
  refine ⟨h.1, h.2.1, fun q hq => ?_⟩
  obtain ⟨k, v, h1, h2, rfl⟩ := alf_mem _ _ _ hq
  rw [Nat.zero_add]
  rcases stL_get l i k x v h1 h2 with ⟨rfl, rfl⟩ | ⟨h3, h3', h4, h5⟩
  · exact h.2.2 _ List.mem_cons_self
  · refine h.2.2 (k, cv ad v) (List.mem_cons_of_mem _ (List.mem_filter.mpr ⟨?_, ?_⟩))
    · have := alf_get (ad := ad) l 0 k v h4 h2
      simpa using this
    · simp only [Bool.and_eq_true, Bool.not_eq_true', beq_eq_false_iff_ne, Bool.and_eq_false_iff, cv_cat]
      refine ⟨h3, h3', ?_⟩
      by_cases hk : k + 1 = i
      · exact Or.inr (fun q => h5 ⟨hk, q⟩)
      · exact Or.inl hk
/-- the locals at a method's entry -/
def entL : List Value → List Value
  | [] => []
  | v :: vs => if v.category = 2 then v :: .null :: entL vs else v :: entL vs
def ent (n : Nat) (vs : List Value) : List Value := entL vs ++ List.replicate (n - (entL vs).length) .null

/-! the judgement -/
def CXT (Y : MY) (d : Nat) (p : Program) (R : Room) (s : State) (m : MethodId) (args : Array Value) (meth : Method) (c : Code) (cells slots : Nat) : Prop :=
  p.tables.exec = Jvm.exec ∧ c.code = Y.2.1 ∧ c.maxLocals = Y.2.2.1 ∧ meth.sig.returnType = Y.2.2.2.1 ∧ meth.locks = false ∧ s.vm.findClass Y.1 = some m.cls ∧ (∀ w ∈ gtbl, w.before args s = true) ∧ (∀ q ∈ nests, va_Nw (.methodLinkNest q.1 q.2.1 q.2.2.1 q.2.2.2) s) ∧ d ≤ R.frames ∧ 40 * d ≤ R.locals ∧ cells ≤ R.cells ∧ slots ≤ R.slots
def WLD (Y : MY) (ad : Nat → Nat) (D : va_G) (cI cZ : ClassId) (A : Nat → Prop) (H0 : Heap) (s : State) (hp : HP) (H : Heap) (locs : List Loc) : Prop :=
  va_K D vwCl [(cI, .int), (cZ, .boolean)] s ∧ va_P D vwCl (mkW ad cI cZ hp) H ∧ va_D A (mkW ad cI cZ hp) ∧ va_S A H0 H locs ∧ (∀ q, H0.size ≤ q → A q) ∧ (match Y.2.2.2.2 with
    | none => True
    | some (L, xs) => va_X (ad 50) L xs s H0 ∧ ad 50 < H0.size ∧ ¬ A (ad 50))
/-- how a method may end: the return instruction at pc, with v -/
def RTN (Y : MY) (pc : Nat) (v : Option Value) : Prop :=
  (∃ (x : Int32) (ty : FieldType), v = some (.int x) ∧ decode Y.2.1 pc = .ok (.ireturn, 1) ∧ Y.2.2.2.1 = some ty ∧ narrow ty (.int x) = .int x) ∨ (∃ x : Int64, v = some (.long x) ∧ decode Y.2.1 pc = .ok (.lreturn, 1) ∧ Y.2.2.2.1 = some .long) ∨ (v = none ∧ decode Y.2.1 pc = .ok (.return_, 1) ∧ Y.2.2.2.1 = none)
def E (Y : MY) (d : Nat) (pc : Nat) (l st : List Value) (hp : HP) (Q : Option Value → HP → Prop) : Prop :=
  ∀ (p : Program) (lch : Launch) (e : Env) (R : Room) (s : State) (m : MethodId) (args : Array Value) (below : List Frame) (meth : Method) (c : Code) (H : Heap) (locs : List Loc) (cells slots : Nat) (ad : Nat → Nat) (D : va_G) (cI cZ : ClassId) (A : Nat → Prop) (H0 : Heap) (Qm : State → Prop) (ls : Array Slot), CXT Y d p R s m args meth c cells slots → WLD Y ad D cI cZ A H0 s hp H locs → lvr ad ls Y.2.2.1 l →
    (∀ (v : Option Value) (hp' : HP) (H' : Heap) (locs' : List Loc) (pc' : Nat) (ls' : Array Slot), Q v hp' → WLD Y ad D cI cZ A H0 s hp' H' locs' → RTN Y pc' v → W p lch e R s m args below meth c H' locs' cells slots Qm (F0 m pc' ls' (v.toList.map (cv ad)))) →
    W p lch e R s m args below meth c H locs cells slots Qm (F0 m pc ls (st.map (cv ad)))

theorem E_iconst {Y : MY} {d pc : Nat} {l st : List Value} {hp : HP} {Q : Option Value → HP → Prop} {n : Int} {v : Int32} (hd : decode Y.2.1 pc = .ok (.iconst n, 1)) (hv : Int32.ofInt n = v) (kk : E Y d (pc + 1) l (.int v :: st) hp Q) : E Y d pc l st hp Q := by
  intro p lch e R s m args below meth c H locs cells slots ad D cI cZ A H0 Qm ls hC hW hl hR
  exact lv_iconst hC.1 hC.2.1 hd hv (kk p lch e R s m args below meth c H locs cells slots ad D cI cZ A H0 Qm ls hC hW hl hR)

theorem E_bipush {Y : MY} {d pc : Nat} {l st : List Value} {hp : HP} {Q : Option Value → HP → Prop} {n : Int} {v : Int32} (hd : decode Y.2.1 pc = .ok (.bipush n, 2)) (hv : (Int8.ofInt n).toInt32 = v) (kk : E Y d (pc + 2) l (.int v :: st) hp Q) : E Y d pc l st hp Q := by
  intro p lch e R s m args below meth c H locs cells slots ad D cI cZ A H0 Qm ls hC hW hl hR
  exact lv_bipush hC.1 hC.2.1 hd hv (kk p lch e R s m args below meth c H locs cells slots ad D cI cZ A H0 Qm ls hC hW hl hR)

theorem E_sipush {Y : MY} {d pc : Nat} {l st : List Value} {hp : HP} {Q : Option Value → HP → Prop} {n : Int} {v : Int32} (hd : decode Y.2.1 pc = .ok (.sipush n, 3)) (hv : (Int16.ofInt n).toInt32 = v) (kk : E Y d (pc + 3) l (.int v :: st) hp Q) : E Y d pc l st hp Q := by
  intro p lch e R s m args below meth c H locs cells slots ad D cI cZ A H0 Qm ls hC hW hl hR
  exact lv_sipush hC.1 hC.2.1 hd hv (kk p lch e R s m args below meth c H locs cells slots ad D cI cZ A H0 Qm ls hC hW hl hR)

theorem E_lconst {Y : MY} {d pc : Nat} {l st : List Value} {hp : HP} {Q : Option Value → HP → Prop} {n : Fin 2} {v : Int64} (hd : decode Y.2.1 pc = .ok (.lconst n, 1)) (hv : Int64.ofNat (n : Nat) = v) (kk : E Y d (pc + 1) l (.long v :: st) hp Q) : E Y d pc l st hp Q := by
  intro p lch e R s m args below meth c H locs cells slots ad D cI cZ A H0 Qm ls hC hW hl hR
  exact lv_lconst hC.1 hC.2.1 hd hv (kk p lch e R s m args below meth c H locs cells slots ad D cI cZ A H0 Qm ls hC hW hl hR)

theorem E_iadd {Y : MY} {d pc : Nat} {l st : List Value} {hp : HP} {Q : Option Value → HP → Prop} {x y : Int32} (hd : decode Y.2.1 pc = .ok (.iadd, 1))  (kk : E Y d (pc + 1) l (.int (x + y) :: st) hp Q) : E Y d pc l (.int y :: .int x :: st) hp Q := by
  intro p lch e R s m args below meth c H locs cells slots ad D cI cZ A H0 Qm ls hC hW hl hR
  exact lv_iadd hC.1 hC.2.1 hd  (kk p lch e R s m args below meth c H locs cells slots ad D cI cZ A H0 Qm ls hC hW hl hR)

theorem E_isub {Y : MY} {d pc : Nat} {l st : List Value} {hp : HP} {Q : Option Value → HP → Prop} {x y : Int32} (hd : decode Y.2.1 pc = .ok (.isub, 1))  (kk : E Y d (pc + 1) l (.int (x - y) :: st) hp Q) : E Y d pc l (.int y :: .int x :: st) hp Q := by
  intro p lch e R s m args below meth c H locs cells slots ad D cI cZ A H0 Qm ls hC hW hl hR
  exact lv_isub hC.1 hC.2.1 hd  (kk p lch e R s m args below meth c H locs cells slots ad D cI cZ A H0 Qm ls hC hW hl hR)

theorem E_imul {Y : MY} {d pc : Nat} {l st : List Value} {hp : HP} {Q : Option Value → HP → Prop} {x y : Int32} (hd : decode Y.2.1 pc = .ok (.imul, 1))  (kk : E Y d (pc + 1) l (.int (x * y) :: st) hp Q) : E Y d pc l (.int y :: .int x :: st) hp Q := by
  intro p lch e R s m args below meth c H locs cells slots ad D cI cZ A H0 Qm ls hC hW hl hR
  exact lv_imul hC.1 hC.2.1 hd  (kk p lch e R s m args below meth c H locs cells slots ad D cI cZ A H0 Qm ls hC hW hl hR)

theorem E_iand {Y : MY} {d pc : Nat} {l st : List Value} {hp : HP} {Q : Option Value → HP → Prop} {x y : Int32} (hd : decode Y.2.1 pc = .ok (.iand, 1))  (kk : E Y d (pc + 1) l (.int (x &&& y) :: st) hp Q) : E Y d pc l (.int y :: .int x :: st) hp Q := by
  intro p lch e R s m args below meth c H locs cells slots ad D cI cZ A H0 Qm ls hC hW hl hR
  exact lv_iand hC.1 hC.2.1 hd  (kk p lch e R s m args below meth c H locs cells slots ad D cI cZ A H0 Qm ls hC hW hl hR)

theorem E_ior {Y : MY} {d pc : Nat} {l st : List Value} {hp : HP} {Q : Option Value → HP → Prop} {x y : Int32} (hd : decode Y.2.1 pc = .ok (.ior, 1))  (kk : E Y d (pc + 1) l (.int (x ||| y) :: st) hp Q) : E Y d pc l (.int y :: .int x :: st) hp Q := by
  intro p lch e R s m args below meth c H locs cells slots ad D cI cZ A H0 Qm ls hC hW hl hR
  exact lv_ior hC.1 hC.2.1 hd  (kk p lch e R s m args below meth c H locs cells slots ad D cI cZ A H0 Qm ls hC hW hl hR)

theorem E_ixor {Y : MY} {d pc : Nat} {l st : List Value} {hp : HP} {Q : Option Value → HP → Prop} {x y : Int32} (hd : decode Y.2.1 pc = .ok (.ixor, 1))  (kk : E Y d (pc + 1) l (.int (x ^^^ y) :: st) hp Q) : E Y d pc l (.int y :: .int x :: st) hp Q := by
  intro p lch e R s m args below meth c H locs cells slots ad D cI cZ A H0 Qm ls hC hW hl hR
  exact lv_ixor hC.1 hC.2.1 hd  (kk p lch e R s m args below meth c H locs cells slots ad D cI cZ A H0 Qm ls hC hW hl hR)

theorem E_lmul {Y : MY} {d pc : Nat} {l st : List Value} {hp : HP} {Q : Option Value → HP → Prop} {x y : Int64} (hd : decode Y.2.1 pc = .ok (.lmul, 1))  (kk : E Y d (pc + 1) l (.long (x * y) :: st) hp Q) : E Y d pc l (.long y :: .long x :: st) hp Q := by
  intro p lch e R s m args below meth c H locs cells slots ad D cI cZ A H0 Qm ls hC hW hl hR
  exact lv_lmul hC.1 hC.2.1 hd  (kk p lch e R s m args below meth c H locs cells slots ad D cI cZ A H0 Qm ls hC hW hl hR)

theorem E_land {Y : MY} {d pc : Nat} {l st : List Value} {hp : HP} {Q : Option Value → HP → Prop} {x y : Int64} (hd : decode Y.2.1 pc = .ok (.land, 1))  (kk : E Y d (pc + 1) l (.long (x &&& y) :: st) hp Q) : E Y d pc l (.long y :: .long x :: st) hp Q := by
  intro p lch e R s m args below meth c H locs cells slots ad D cI cZ A H0 Qm ls hC hW hl hR
  exact lv_land hC.1 hC.2.1 hd  (kk p lch e R s m args below meth c H locs cells slots ad D cI cZ A H0 Qm ls hC hW hl hR)

theorem E_lor {Y : MY} {d pc : Nat} {l st : List Value} {hp : HP} {Q : Option Value → HP → Prop} {x y : Int64} (hd : decode Y.2.1 pc = .ok (.lor, 1))  (kk : E Y d (pc + 1) l (.long (x ||| y) :: st) hp Q) : E Y d pc l (.long y :: .long x :: st) hp Q := by
  intro p lch e R s m args below meth c H locs cells slots ad D cI cZ A H0 Qm ls hC hW hl hR
  exact lv_lor hC.1 hC.2.1 hd  (kk p lch e R s m args below meth c H locs cells slots ad D cI cZ A H0 Qm ls hC hW hl hR)

theorem E_ishl {Y : MY} {d pc : Nat} {l st : List Value} {hp : HP} {Q : Option Value → HP → Prop} {x y : Int32} (hd : decode Y.2.1 pc = .ok (.ishl, 1))  (kk : E Y d (pc + 1) l (.int (x <<< (y &&& 31)) :: st) hp Q) : E Y d pc l (.int y :: .int x :: st) hp Q := by
  intro p lch e R s m args below meth c H locs cells slots ad D cI cZ A H0 Qm ls hC hW hl hR
  exact lv_ishl hC.1 hC.2.1 hd  (kk p lch e R s m args below meth c H locs cells slots ad D cI cZ A H0 Qm ls hC hW hl hR)

theorem E_ishr {Y : MY} {d pc : Nat} {l st : List Value} {hp : HP} {Q : Option Value → HP → Prop} {x y : Int32} (hd : decode Y.2.1 pc = .ok (.ishr, 1))  (kk : E Y d (pc + 1) l (.int (x >>> (y &&& 31)) :: st) hp Q) : E Y d pc l (.int y :: .int x :: st) hp Q := by
  intro p lch e R s m args below meth c H locs cells slots ad D cI cZ A H0 Qm ls hC hW hl hR
  exact lv_ishr hC.1 hC.2.1 hd  (kk p lch e R s m args below meth c H locs cells slots ad D cI cZ A H0 Qm ls hC hW hl hR)

theorem E_ineg {Y : MY} {d pc : Nat} {l st : List Value} {hp : HP} {Q : Option Value → HP → Prop} {x : Int32} (hd : decode Y.2.1 pc = .ok (.ineg, 1))  (kk : E Y d (pc + 1) l (.int (-x) :: st) hp Q) : E Y d pc l (.int x :: st) hp Q := by
  intro p lch e R s m args below meth c H locs cells slots ad D cI cZ A H0 Qm ls hC hW hl hR
  exact lv_ineg hC.1 hC.2.1 hd  (kk p lch e R s m args below meth c H locs cells slots ad D cI cZ A H0 Qm ls hC hW hl hR)

theorem E_idiv {Y : MY} {d pc : Nat} {l st : List Value} {hp : HP} {Q : Option Value → HP → Prop} {x y : Int32} (hd : decode Y.2.1 pc = .ok (.idiv, 1)) (hne : ¬ y = 0) (kk : E Y d (pc + 1) l (.int (x / y) :: st) hp Q) : E Y d pc l (.int y :: .int x :: st) hp Q := by
  intro p lch e R s m args below meth c H locs cells slots ad D cI cZ A H0 Qm ls hC hW hl hR
  exact lv_idiv hC.1 hC.2.1 hd hne (kk p lch e R s m args below meth c H locs cells slots ad D cI cZ A H0 Qm ls hC hW hl hR)

def rmI (x y : Int32) : Int32 := x - x / y * y
def rmL (x y : Int64) : Int64 := x - x / y * y

theorem E_irem {Y : MY} {d pc : Nat} {l st : List Value} {hp : HP} {Q : Option Value → HP → Prop} {x y : Int32} (hd : decode Y.2.1 pc = .ok (.irem, 1)) (hne : ¬ y = 0) (kk : E Y d (pc + 1) l (.int (rmI x y) :: st) hp Q) : E Y d pc l (.int y :: .int x :: st) hp Q := by
  intro p lch e R s m args below meth c H locs cells slots ad D cI cZ A H0 Qm ls hC hW hl hR
  exact lv_irem hC.1 hC.2.1 hd hne (kk p lch e R s m args below meth c H locs cells slots ad D cI cZ A H0 Qm ls hC hW hl hR)

theorem E_ldiv {Y : MY} {d pc : Nat} {l st : List Value} {hp : HP} {Q : Option Value → HP → Prop} {x y : Int64} (hd : decode Y.2.1 pc = .ok (.ldiv, 1)) (hne : ¬ y = 0) (kk : E Y d (pc + 1) l (.long (x / y) :: st) hp Q) : E Y d pc l (.long y :: .long x :: st) hp Q := by
  intro p lch e R s m args below meth c H locs cells slots ad D cI cZ A H0 Qm ls hC hW hl hR
  exact lv_ldiv hC.1 hC.2.1 hd hne (kk p lch e R s m args below meth c H locs cells slots ad D cI cZ A H0 Qm ls hC hW hl hR)

theorem E_lrem {Y : MY} {d pc : Nat} {l st : List Value} {hp : HP} {Q : Option Value → HP → Prop} {x y : Int64} (hd : decode Y.2.1 pc = .ok (.lrem, 1)) (hne : ¬ y = 0) (kk : E Y d (pc + 1) l (.long (rmL x y) :: st) hp Q) : E Y d pc l (.long y :: .long x :: st) hp Q := by
  intro p lch e R s m args below meth c H locs cells slots ad D cI cZ A H0 Qm ls hC hW hl hR
  exact lv_lrem hC.1 hC.2.1 hd hne (kk p lch e R s m args below meth c H locs cells slots ad D cI cZ A H0 Qm ls hC hW hl hR)

theorem E_i2l {Y : MY} {d pc : Nat} {l st : List Value} {hp : HP} {Q : Option Value → HP → Prop} {x : Int32} (hd : decode Y.2.1 pc = .ok (.i2l, 1))  (kk : E Y d (pc + 1) l (.long x.toInt64 :: st) hp Q) : E Y d pc l (.int x :: st) hp Q := by
  intro p lch e R s m args below meth c H locs cells slots ad D cI cZ A H0 Qm ls hC hW hl hR
  exact lv_i2l hC.1 hC.2.1 hd rfl (kk p lch e R s m args below meth c H locs cells slots ad D cI cZ A H0 Qm ls hC hW hl hR)

theorem E_l2i {Y : MY} {d pc : Nat} {l st : List Value} {hp : HP} {Q : Option Value → HP → Prop} {x : Int64} (hd : decode Y.2.1 pc = .ok (.l2i, 1))  (kk : E Y d (pc + 1) l (.int x.toInt32 :: st) hp Q) : E Y d pc l (.long x :: st) hp Q := by
  intro p lch e R s m args below meth c H locs cells slots ad D cI cZ A H0 Qm ls hC hW hl hR
  exact lv_l2i hC.1 hC.2.1 hd rfl (kk p lch e R s m args below meth c H locs cells slots ad D cI cZ A H0 Qm ls hC hW hl hR)

theorem E_iushr {Y : MY} {d pc : Nat} {l st : List Value} {hp : HP} {Q : Option Value → HP → Prop} {x y : Int32} (hd : decode Y.2.1 pc = .ok (.iushr, 1))  (kk : E Y d (pc + 1) l (.int (x.toUInt32 >>> (y.toUInt32 &&& Int32.toUInt32 31)).toInt32 :: st) hp Q) : E Y d pc l (.int y :: .int x :: st) hp Q := by
  intro p lch e R s m args below meth c H locs cells slots ad D cI cZ A H0 Qm ls hC hW hl hR
  exact lv_iushr hC.1 hC.2.1 hd rfl (kk p lch e R s m args below meth c H locs cells slots ad D cI cZ A H0 Qm ls hC hW hl hR)

theorem E_lshl {Y : MY} {d pc : Nat} {l st : List Value} {hp : HP} {Q : Option Value → HP → Prop} {x : Int64} {y : Int32} (hd : decode Y.2.1 pc = .ok (.lshl, 1))  (kk : E Y d (pc + 1) l (.long (x <<< (y.toInt64 &&& 63)) :: st) hp Q) : E Y d pc l (.int y :: .long x :: st) hp Q := by
  intro p lch e R s m args below meth c H locs cells slots ad D cI cZ A H0 Qm ls hC hW hl hR
  exact lv_lshl hC.1 hC.2.1 hd rfl (kk p lch e R s m args below meth c H locs cells slots ad D cI cZ A H0 Qm ls hC hW hl hR)

theorem E_lshr {Y : MY} {d pc : Nat} {l st : List Value} {hp : HP} {Q : Option Value → HP → Prop} {x : Int64} {y : Int32} (hd : decode Y.2.1 pc = .ok (.lshr, 1))  (kk : E Y d (pc + 1) l (.long (x >>> (y.toInt64 &&& 63)) :: st) hp Q) : E Y d pc l (.int y :: .long x :: st) hp Q := by
  intro p lch e R s m args below meth c H locs cells slots ad D cI cZ A H0 Qm ls hC hW hl hR
  exact lv_lshr hC.1 hC.2.1 hd rfl (kk p lch e R s m args below meth c H locs cells slots ad D cI cZ A H0 Qm ls hC hW hl hR)

theorem E_lcmp {Y : MY} {d pc : Nat} {l st : List Value} {hp : HP} {Q : Option Value → HP → Prop} {x y : Int64} (hd : decode Y.2.1 pc = .ok (.lcmp, 1))  (kk : E Y d (pc + 1) l (.int (lg_cmp x y) :: st) hp Q) : E Y d pc l (.long y :: .long x :: st) hp Q := by
  intro p lch e R s m args below meth c H locs cells slots ad D cI cZ A H0 Qm ls hC hW hl hR
  exact W.lcmp hC.1 hC.2.1 hd  (kk p lch e R s m args below meth c H locs cells slots ad D cI cZ A H0 Qm ls hC hW hl hR)

theorem E_dup {Y : MY} {d pc : Nat} {l st : List Value} {hp : HP} {Q : Option Value → HP → Prop} {v : Value} (hd : decode Y.2.1 pc = .ok (.dup, 1)) (hv : v.category = 1) (kk : E Y d (pc + 1) l (v :: v :: st) hp Q) : E Y d pc l (v :: st) hp Q := by
  intro p lch e R s m args below meth c H locs cells slots ad D cI cZ A H0 Qm ls hC hW hl hR
  exact lv_dup hC.1 hC.2.1 hd ((cv_cat ad v).trans hv) (kk p lch e R s m args below meth c H locs cells slots ad D cI cZ A H0 Qm ls hC hW hl hR)

theorem E_pop {Y : MY} {d pc : Nat} {l st : List Value} {hp : HP} {Q : Option Value → HP → Prop} {v : Value} (hd : decode Y.2.1 pc = .ok (.pop, 1)) (hv : v.category = 1) (kk : E Y d (pc + 1) l st hp Q) : E Y d pc l (v :: st) hp Q := by
  intro p lch e R s m args below meth c H locs cells slots ad D cI cZ A H0 Qm ls hC hW hl hR
  exact lv_pop hC.1 hC.2.1 hd ((cv_cat ad v).trans hv) (kk p lch e R s m args below meth c H locs cells slots ad D cI cZ A H0 Qm ls hC hW hl hR)

theorem E_dup2 {Y : MY} {d pc : Nat} {l st : List Value} {hp : HP} {Q : Option Value → HP → Prop} {v w : Value} (hd : decode Y.2.1 pc = .ok (.dup2, 1)) (hv : v.category = 1) (hw : w.category = 1) (kk : E Y d (pc + 1) l (v :: w :: v :: w :: st) hp Q) : E Y d pc l (v :: w :: st) hp Q := by
  intro p lch e R s m args below meth c H locs cells slots ad D cI cZ A H0 Qm ls hC hW hl hR
  exact lv_dup2_11 hC.1 hC.2.1 hd ((cv_cat ad v).trans hv) ((cv_cat ad w).trans hw) (kk p lch e R s m args below meth c H locs cells slots ad D cI cZ A H0 Qm ls hC hW hl hR)

theorem E_ldc {Y : MY} {d pc : Nat} {l st : List Value} {hp : HP} {Q : Option Value → HP → Prop} {index : Nat} {v : Int32} (hd : decode Y.2.1 pc = .ok (.ldc index, 2)) (hw : Jvm.Cond.constant Y.1 index v ∈ gtbl) (kk : E Y d (pc + 2) l (.int v :: st) hp Q) : E Y d pc l st hp Q := by
  intro p lch e R s m args below meth c H locs cells slots ad D cI cZ A H0 Qm ls hC hW hl hR
  exact lv_ldc hC.1 hC.2.1 hC.2.2.2.2.2.1 (hC.2.2.2.2.2.2.1 _ hw) hd (kk p lch e R s m args below meth c H locs cells slots ad D cI cZ A H0 Qm ls hC hW hl hR)

theorem E_ldcw {Y : MY} {d pc : Nat} {l st : List Value} {hp : HP} {Q : Option Value → HP → Prop} {index : Nat} {v : Int32} (hd : decode Y.2.1 pc = .ok (.ldc_w index, 3)) (hw : Jvm.Cond.constant Y.1 index v ∈ gtbl) (kk : E Y d (pc + 3) l (.int v :: st) hp Q) : E Y d pc l st hp Q := by
  intro p lch e R s m args below meth c H locs cells slots ad D cI cZ A H0 Qm ls hC hW hl hR
  exact lv_ldcw hC.1 hC.2.1 hC.2.2.2.2.2.1 (hC.2.2.2.2.2.2.1 _ hw) hd (kk p lch e R s m args below meth c H locs cells slots ad D cI cZ A H0 Qm ls hC hW hl hR)

theorem E_ldc2 {Y : MY} {d pc : Nat} {l st : List Value} {hp : HP} {Q : Option Value → HP → Prop} {index : Nat} {v : Int64} (hd : decode Y.2.1 pc = .ok (.ldc2_w index, 3)) (hw : Jvm.Cond.constantLong Y.1 index v ∈ gtbl) (kk : E Y d (pc + 3) l (.long v :: st) hp Q) : E Y d pc l st hp Q := by
  intro p lch e R s m args below meth c H locs cells slots ad D cI cZ A H0 Qm ls hC hW hl hR
  exact lv_ldc2 hC.1 hC.2.1 hC.2.2.2.2.2.1 (hC.2.2.2.2.2.2.1 _ hw) hd (kk p lch e R s m args below meth c H locs cells slots ad D cI cZ A H0 Qm ls hC hW hl hR)

theorem E_iload_n {Y : MY} {d pc : Nat} {l st : List Value} {hp : HP} {Q : Option Value → HP → Prop} {k : Fin 4} {x : Int32} (hd : decode Y.2.1 pc = .ok (.iload_n k, 1)) (hv : l[(k : Nat)]? = some (.int x)) (kk : E Y d (pc + 1) l (.int x :: st) hp Q) : E Y d pc l st hp Q := by
  intro p lch e R s m args below meth c H locs cells slots ad D cI cZ A H0 Qm ls hC hW hl hR
  exact lv_iload_n hC.1 hC.2.1 hd rfl (lvr_at hl hv (by intro h; cases h)) (kk p lch e R s m args below meth c H locs cells slots ad D cI cZ A H0 Qm ls hC hW hl hR)

theorem E_iload {Y : MY} {d pc : Nat} {l st : List Value} {hp : HP} {Q : Option Value → HP → Prop} {i : Nat} {x : Int32} (hd : decode Y.2.1 pc = .ok (.iload i, 2)) (hv : l[i]? = some (.int x)) (kk : E Y d (pc + 2) l (.int x :: st) hp Q) : E Y d pc l st hp Q := by
  intro p lch e R s m args below meth c H locs cells slots ad D cI cZ A H0 Qm ls hC hW hl hR
  exact lv_iload hC.1 hC.2.1 hd (lvr_at hl hv (by intro h; cases h)) (kk p lch e R s m args below meth c H locs cells slots ad D cI cZ A H0 Qm ls hC hW hl hR)

theorem E_lload_n {Y : MY} {d pc : Nat} {l st : List Value} {hp : HP} {Q : Option Value → HP → Prop} {k : Fin 4} {x : Int64} (hd : decode Y.2.1 pc = .ok (.lload_n k, 1)) (hv : l[(k : Nat)]? = some (.long x)) (kk : E Y d (pc + 1) l (.long x :: st) hp Q) : E Y d pc l st hp Q := by
  intro p lch e R s m args below meth c H locs cells slots ad D cI cZ A H0 Qm ls hC hW hl hR
  exact lv_lload_n hC.1 hC.2.1 hd rfl (lvr_at hl hv (by intro h; cases h)) (kk p lch e R s m args below meth c H locs cells slots ad D cI cZ A H0 Qm ls hC hW hl hR)

theorem E_lload {Y : MY} {d pc : Nat} {l st : List Value} {hp : HP} {Q : Option Value → HP → Prop} {i : Nat} {x : Int64} (hd : decode Y.2.1 pc = .ok (.lload i, 2)) (hv : l[i]? = some (.long x)) (kk : E Y d (pc + 2) l (.long x :: st) hp Q) : E Y d pc l st hp Q := by
  intro p lch e R s m args below meth c H locs cells slots ad D cI cZ A H0 Qm ls hC hW hl hR
  exact lv_lload hC.1 hC.2.1 hd (lvr_at hl hv (by intro h; cases h)) (kk p lch e R s m args below meth c H locs cells slots ad D cI cZ A H0 Qm ls hC hW hl hR)

theorem E_aload_n {Y : MY} {d pc : Nat} {l st : List Value} {hp : HP} {Q : Option Value → HP → Prop} {k : Fin 4} {x : Nat} (hd : decode Y.2.1 pc = .ok (.aload_n k, 1)) (hv : l[(k : Nat)]? = some (.ref x)) (kk : E Y d (pc + 1) l (.ref x :: st) hp Q) : E Y d pc l st hp Q := by
  intro p lch e R s m args below meth c H locs cells slots ad D cI cZ A H0 Qm ls hC hW hl hR
  exact lv_aload_n hC.1 hC.2.1 hd rfl (lvr_at hl hv (by intro h; cases h)) (kk p lch e R s m args below meth c H locs cells slots ad D cI cZ A H0 Qm ls hC hW hl hR)

theorem E_aload {Y : MY} {d pc : Nat} {l st : List Value} {hp : HP} {Q : Option Value → HP → Prop} {i : Nat} {x : Nat} (hd : decode Y.2.1 pc = .ok (.aload i, 2)) (hv : l[i]? = some (.ref x)) (kk : E Y d (pc + 2) l (.ref x :: st) hp Q) : E Y d pc l st hp Q := by
  intro p lch e R s m args below meth c H locs cells slots ad D cI cZ A H0 Qm ls hC hW hl hR
  exact lv_aload hC.1 hC.2.1 hd (lvr_at hl hv (by intro h; cases h)) (kk p lch e R s m args below meth c H locs cells slots ad D cI cZ A H0 Qm ls hC hW hl hR)

theorem E_istore_n {Y : MY} {d pc : Nat} {l st : List Value} {hp : HP} {Q : Option Value → HP → Prop} {k : Fin 4} {i : Nat} {x : Int32} {l2 : List Value} (hd : decode Y.2.1 pc = .ok (.istore_n k, 1)) (hi : (k : Nat) = i) (hn : i < Y.2.2.1) (hl2 : stI l i (.int x) = l2) (kk : E Y d (pc + 1) l2 st hp Q) : E Y d pc l (.int x :: st) hp Q := by
  intro p lch e R s m args below meth c H locs cells slots ad D cI cZ A H0 Qm ls hC hW hl hR
  exact lv_istore_n hC.1 hC.2.1 hd hi hl hn rfl (fun ls2 h2 => kk p lch e R s m args below meth c H locs cells slots ad D cI cZ A H0 Qm ls2 hC hW (hl2 ▸ lvr_st1 (x := .int x) h2) hR)

theorem E_istore {Y : MY} {d pc : Nat} {l st : List Value} {hp : HP} {Q : Option Value → HP → Prop} {i : Nat} {x : Int32} {l2 : List Value} (hd : decode Y.2.1 pc = .ok (.istore i, 2)) (hn : i < Y.2.2.1) (hl2 : stI l i (.int x) = l2) (kk : E Y d (pc + 2) l2 st hp Q) : E Y d pc l (.int x :: st) hp Q := by
  intro p lch e R s m args below meth c H locs cells slots ad D cI cZ A H0 Qm ls hC hW hl hR
  exact lv_istore hC.1 hC.2.1 hd hl hn rfl (fun ls2 h2 => kk p lch e R s m args below meth c H locs cells slots ad D cI cZ A H0 Qm ls2 hC hW (hl2 ▸ lvr_st1 (x := .int x) h2) hR)

theorem E_lstore_n {Y : MY} {d pc : Nat} {l st : List Value} {hp : HP} {Q : Option Value → HP → Prop} {k : Fin 4} {i : Nat} {x : Int64} {l2 : List Value} (hd : decode Y.2.1 pc = .ok (.lstore_n k, 1)) (hi : (k : Nat) = i) (hn : i + 1 < Y.2.2.1) (hl2 : stL l i (.long x) = l2) (kk : E Y d (pc + 1) l2 st hp Q) : E Y d pc l (.long x :: st) hp Q := by
  intro p lch e R s m args below meth c H locs cells slots ad D cI cZ A H0 Qm ls hC hW hl hR
  exact lv_lstore_n hC.1 hC.2.1 hd hi hl hn rfl (fun ls2 h2 => kk p lch e R s m args below meth c H locs cells slots ad D cI cZ A H0 Qm ls2 hC hW (hl2 ▸ lvr_st2 (x := .long x) h2) hR)

theorem E_lstore {Y : MY} {d pc : Nat} {l st : List Value} {hp : HP} {Q : Option Value → HP → Prop} {i : Nat} {x : Int64} {l2 : List Value} (hd : decode Y.2.1 pc = .ok (.lstore i, 2)) (hn : i + 1 < Y.2.2.1) (hl2 : stL l i (.long x) = l2) (kk : E Y d (pc + 2) l2 st hp Q) : E Y d pc l (.long x :: st) hp Q := by
  intro p lch e R s m args below meth c H locs cells slots ad D cI cZ A H0 Qm ls hC hW hl hR
  exact lv_lstore hC.1 hC.2.1 hd hl hn rfl (fun ls2 h2 => kk p lch e R s m args below meth c H locs cells slots ad D cI cZ A H0 Qm ls2 hC hW (hl2 ▸ lvr_st2 (x := .long x) h2) hR)

theorem E_astore_n {Y : MY} {d pc : Nat} {l st : List Value} {hp : HP} {Q : Option Value → HP → Prop} {k : Fin 4} {i : Nat} {x : Nat} {l2 : List Value} (hd : decode Y.2.1 pc = .ok (.astore_n k, 1)) (hi : (k : Nat) = i) (hn : i < Y.2.2.1) (hl2 : stI l i (.ref x) = l2) (kk : E Y d (pc + 1) l2 st hp Q) : E Y d pc l (.ref x :: st) hp Q := by
  intro p lch e R s m args below meth c H locs cells slots ad D cI cZ A H0 Qm ls hC hW hl hR
  exact lv_astore_n hC.1 hC.2.1 hd hi hl hn rfl (fun ls2 h2 => kk p lch e R s m args below meth c H locs cells slots ad D cI cZ A H0 Qm ls2 hC hW (hl2 ▸ lvr_st1 (x := .ref x) h2) hR)

theorem E_astore {Y : MY} {d pc : Nat} {l st : List Value} {hp : HP} {Q : Option Value → HP → Prop} {i : Nat} {x : Nat} {l2 : List Value} (hd : decode Y.2.1 pc = .ok (.astore i, 2)) (hn : i < Y.2.2.1) (hl2 : stI l i (.ref x) = l2) (kk : E Y d (pc + 2) l2 st hp Q) : E Y d pc l (.ref x :: st) hp Q := by
  intro p lch e R s m args below meth c H locs cells slots ad D cI cZ A H0 Qm ls hC hW hl hR
  exact lv_astore hC.1 hC.2.1 hd hl hn rfl (fun ls2 h2 => kk p lch e R s m args below meth c H locs cells slots ad D cI cZ A H0 Qm ls2 hC hW (hl2 ▸ lvr_st1 (x := .ref x) h2) hR)

theorem alf_at {ad : Nat → Nat} {q : Nat × Value} {l : List (Nat × Value)} (h : q ∈ l) : ∃ k : Nat, l[k]? = some q := List.getElem?_of_mem h
theorem E_iinc {Y : MY} {d pc : Nat} {l st : List Value} {hp : HP} {Q : Option Value → HP → Prop} {i : Nat} {n : Int} {x y : Int32} {l2 : List Value} (hd : decode Y.2.1 pc = .ok (.iinc i n, 3)) (hv : l[i]? = some (.int x)) (hy : x + Int32.ofInt n = y) (hn : i < Y.2.2.1) (hl2 : stI l i (.int y) = l2) (kk : E Y d (pc + 3) l2 st hp Q) : E Y d pc l st hp Q := by
  intro p lch e R s m args below meth c H locs cells slots ad D cI cZ A H0 Qm ls hC hW hl hR
  have h0 := alf_get (ad := ad) l 0 i _ hv (by intro h; cases h)
  rw [Nat.zero_add] at h0
  obtain ⟨k, hk⟩ := List.getElem?_of_mem h0
  exact lv_iinc hC.1 hC.2.1 hd hl hk hy hn rfl (fun ls2 h2 => kk p lch e R s m args below meth c H locs cells slots ad D cI cZ A H0 Qm ls2 hC hW (hl2 ▸ lvr_st1 (x := .int y) h2) hR)

theorem E_if_eq {Y : MY} {d pc : Nat} {l st : List Value} {hp : HP} {Q : Option Value → HP → Prop} {x : Int32} {off : Int} {tgt : Nat} (hd : decode Y.2.1 pc = .ok (.ifCond .eq off, 3)) (ht : (pc : Int) + off = (tgt : Int)) (kt : x = 0 → E Y d tgt l st hp Q) (kf : ¬ x = 0 → E Y d (pc + 3) l st hp Q) : E Y d pc l (.int x :: st) hp Q := by
  intro p lch e R s m args below meth c H locs cells slots ad D cI cZ A H0 Qm ls hC hW hl hR
  exact lv_if_eq hC.1 hC.2.1 hd ht (fun c9 => kt c9 p lch e R s m args below meth c H locs cells slots ad D cI cZ A H0 Qm ls hC hW hl hR) (fun c9 => kf c9 p lch e R s m args below meth c H locs cells slots ad D cI cZ A H0 Qm ls hC hW hl hR)

theorem E_icmp_eq {Y : MY} {d pc : Nat} {l st : List Value} {hp : HP} {Q : Option Value → HP → Prop} {x y : Int32} {off : Int} {tgt : Nat} (hd : decode Y.2.1 pc = .ok (.if_icmp .eq off, 3)) (ht : (pc : Int) + off = (tgt : Int)) (kt : x = y → E Y d tgt l st hp Q) (kf : ¬ x = y → E Y d (pc + 3) l st hp Q) : E Y d pc l (.int y :: .int x :: st) hp Q := by
  intro p lch e R s m args below meth c H locs cells slots ad D cI cZ A H0 Qm ls hC hW hl hR
  exact lv_icmp_eq hC.1 hC.2.1 hd ht (fun c9 => kt c9 p lch e R s m args below meth c H locs cells slots ad D cI cZ A H0 Qm ls hC hW hl hR) (fun c9 => kf c9 p lch e R s m args below meth c H locs cells slots ad D cI cZ A H0 Qm ls hC hW hl hR)

theorem E_if_ne {Y : MY} {d pc : Nat} {l st : List Value} {hp : HP} {Q : Option Value → HP → Prop} {x : Int32} {off : Int} {tgt : Nat} (hd : decode Y.2.1 pc = .ok (.ifCond .ne off, 3)) (ht : (pc : Int) + off = (tgt : Int)) (kt : ¬ x = 0 → E Y d tgt l st hp Q) (kf : x = 0 → E Y d (pc + 3) l st hp Q) : E Y d pc l (.int x :: st) hp Q := by
  intro p lch e R s m args below meth c H locs cells slots ad D cI cZ A H0 Qm ls hC hW hl hR
  exact lv_if_ne hC.1 hC.2.1 hd ht (fun c9 => kt c9 p lch e R s m args below meth c H locs cells slots ad D cI cZ A H0 Qm ls hC hW hl hR) (fun c9 => kf c9 p lch e R s m args below meth c H locs cells slots ad D cI cZ A H0 Qm ls hC hW hl hR)

theorem E_icmp_ne {Y : MY} {d pc : Nat} {l st : List Value} {hp : HP} {Q : Option Value → HP → Prop} {x y : Int32} {off : Int} {tgt : Nat} (hd : decode Y.2.1 pc = .ok (.if_icmp .ne off, 3)) (ht : (pc : Int) + off = (tgt : Int)) (kt : ¬ x = y → E Y d tgt l st hp Q) (kf : x = y → E Y d (pc + 3) l st hp Q) : E Y d pc l (.int y :: .int x :: st) hp Q := by
  intro p lch e R s m args below meth c H locs cells slots ad D cI cZ A H0 Qm ls hC hW hl hR
  exact lv_icmp_ne hC.1 hC.2.1 hd ht (fun c9 => kt c9 p lch e R s m args below meth c H locs cells slots ad D cI cZ A H0 Qm ls hC hW hl hR) (fun c9 => kf c9 p lch e R s m args below meth c H locs cells slots ad D cI cZ A H0 Qm ls hC hW hl hR)

theorem E_if_lt {Y : MY} {d pc : Nat} {l st : List Value} {hp : HP} {Q : Option Value → HP → Prop} {x : Int32} {off : Int} {tgt : Nat} (hd : decode Y.2.1 pc = .ok (.ifCond .lt off, 3)) (ht : (pc : Int) + off = (tgt : Int)) (kt : x < 0 → E Y d tgt l st hp Q) (kf : ¬ x < 0 → E Y d (pc + 3) l st hp Q) : E Y d pc l (.int x :: st) hp Q := by
  intro p lch e R s m args below meth c H locs cells slots ad D cI cZ A H0 Qm ls hC hW hl hR
  exact lv_if_lt hC.1 hC.2.1 hd ht (fun c9 => kt c9 p lch e R s m args below meth c H locs cells slots ad D cI cZ A H0 Qm ls hC hW hl hR) (fun c9 => kf c9 p lch e R s m args below meth c H locs cells slots ad D cI cZ A H0 Qm ls hC hW hl hR)

theorem E_icmp_lt {Y : MY} {d pc : Nat} {l st : List Value} {hp : HP} {Q : Option Value → HP → Prop} {x y : Int32} {off : Int} {tgt : Nat} (hd : decode Y.2.1 pc = .ok (.if_icmp .lt off, 3)) (ht : (pc : Int) + off = (tgt : Int)) (kt : x < y → E Y d tgt l st hp Q) (kf : ¬ x < y → E Y d (pc + 3) l st hp Q) : E Y d pc l (.int y :: .int x :: st) hp Q := by
  intro p lch e R s m args below meth c H locs cells slots ad D cI cZ A H0 Qm ls hC hW hl hR
  exact lv_icmp_lt hC.1 hC.2.1 hd ht (fun c9 => kt c9 p lch e R s m args below meth c H locs cells slots ad D cI cZ A H0 Qm ls hC hW hl hR) (fun c9 => kf c9 p lch e R s m args below meth c H locs cells slots ad D cI cZ A H0 Qm ls hC hW hl hR)

theorem E_if_ge {Y : MY} {d pc : Nat} {l st : List Value} {hp : HP} {Q : Option Value → HP → Prop} {x : Int32} {off : Int} {tgt : Nat} (hd : decode Y.2.1 pc = .ok (.ifCond .ge off, 3)) (ht : (pc : Int) + off = (tgt : Int)) (kt : 0 ≤ x → E Y d tgt l st hp Q) (kf : ¬ 0 ≤ x → E Y d (pc + 3) l st hp Q) : E Y d pc l (.int x :: st) hp Q := by
  intro p lch e R s m args below meth c H locs cells slots ad D cI cZ A H0 Qm ls hC hW hl hR
  exact lv_if_ge hC.1 hC.2.1 hd ht (fun c9 => kt c9 p lch e R s m args below meth c H locs cells slots ad D cI cZ A H0 Qm ls hC hW hl hR) (fun c9 => kf c9 p lch e R s m args below meth c H locs cells slots ad D cI cZ A H0 Qm ls hC hW hl hR)

theorem E_icmp_ge {Y : MY} {d pc : Nat} {l st : List Value} {hp : HP} {Q : Option Value → HP → Prop} {x y : Int32} {off : Int} {tgt : Nat} (hd : decode Y.2.1 pc = .ok (.if_icmp .ge off, 3)) (ht : (pc : Int) + off = (tgt : Int)) (kt : y ≤ x → E Y d tgt l st hp Q) (kf : ¬ y ≤ x → E Y d (pc + 3) l st hp Q) : E Y d pc l (.int y :: .int x :: st) hp Q := by
  intro p lch e R s m args below meth c H locs cells slots ad D cI cZ A H0 Qm ls hC hW hl hR
  exact lv_icmp_ge hC.1 hC.2.1 hd ht (fun c9 => kt c9 p lch e R s m args below meth c H locs cells slots ad D cI cZ A H0 Qm ls hC hW hl hR) (fun c9 => kf c9 p lch e R s m args below meth c H locs cells slots ad D cI cZ A H0 Qm ls hC hW hl hR)

theorem E_if_gt {Y : MY} {d pc : Nat} {l st : List Value} {hp : HP} {Q : Option Value → HP → Prop} {x : Int32} {off : Int} {tgt : Nat} (hd : decode Y.2.1 pc = .ok (.ifCond .gt off, 3)) (ht : (pc : Int) + off = (tgt : Int)) (kt : 0 < x → E Y d tgt l st hp Q) (kf : ¬ 0 < x → E Y d (pc + 3) l st hp Q) : E Y d pc l (.int x :: st) hp Q := by
  intro p lch e R s m args below meth c H locs cells slots ad D cI cZ A H0 Qm ls hC hW hl hR
  exact lv_if_gt hC.1 hC.2.1 hd ht (fun c9 => kt c9 p lch e R s m args below meth c H locs cells slots ad D cI cZ A H0 Qm ls hC hW hl hR) (fun c9 => kf c9 p lch e R s m args below meth c H locs cells slots ad D cI cZ A H0 Qm ls hC hW hl hR)

theorem E_icmp_gt {Y : MY} {d pc : Nat} {l st : List Value} {hp : HP} {Q : Option Value → HP → Prop} {x y : Int32} {off : Int} {tgt : Nat} (hd : decode Y.2.1 pc = .ok (.if_icmp .gt off, 3)) (ht : (pc : Int) + off = (tgt : Int)) (kt : y < x → E Y d tgt l st hp Q) (kf : ¬ y < x → E Y d (pc + 3) l st hp Q) : E Y d pc l (.int y :: .int x :: st) hp Q := by
  intro p lch e R s m args below meth c H locs cells slots ad D cI cZ A H0 Qm ls hC hW hl hR
  exact lv_icmp_gt hC.1 hC.2.1 hd ht (fun c9 => kt c9 p lch e R s m args below meth c H locs cells slots ad D cI cZ A H0 Qm ls hC hW hl hR) (fun c9 => kf c9 p lch e R s m args below meth c H locs cells slots ad D cI cZ A H0 Qm ls hC hW hl hR)

theorem E_if_le {Y : MY} {d pc : Nat} {l st : List Value} {hp : HP} {Q : Option Value → HP → Prop} {x : Int32} {off : Int} {tgt : Nat} (hd : decode Y.2.1 pc = .ok (.ifCond .le off, 3)) (ht : (pc : Int) + off = (tgt : Int)) (kt : x ≤ 0 → E Y d tgt l st hp Q) (kf : ¬ x ≤ 0 → E Y d (pc + 3) l st hp Q) : E Y d pc l (.int x :: st) hp Q := by
  intro p lch e R s m args below meth c H locs cells slots ad D cI cZ A H0 Qm ls hC hW hl hR
  exact lv_if_le hC.1 hC.2.1 hd ht (fun c9 => kt c9 p lch e R s m args below meth c H locs cells slots ad D cI cZ A H0 Qm ls hC hW hl hR) (fun c9 => kf c9 p lch e R s m args below meth c H locs cells slots ad D cI cZ A H0 Qm ls hC hW hl hR)

theorem E_icmp_le {Y : MY} {d pc : Nat} {l st : List Value} {hp : HP} {Q : Option Value → HP → Prop} {x y : Int32} {off : Int} {tgt : Nat} (hd : decode Y.2.1 pc = .ok (.if_icmp .le off, 3)) (ht : (pc : Int) + off = (tgt : Int)) (kt : x ≤ y → E Y d tgt l st hp Q) (kf : ¬ x ≤ y → E Y d (pc + 3) l st hp Q) : E Y d pc l (.int y :: .int x :: st) hp Q := by
  intro p lch e R s m args below meth c H locs cells slots ad D cI cZ A H0 Qm ls hC hW hl hR
  exact lv_icmp_le hC.1 hC.2.1 hd ht (fun c9 => kt c9 p lch e R s m args below meth c H locs cells slots ad D cI cZ A H0 Qm ls hC hW hl hR) (fun c9 => kf c9 p lch e R s m args below meth c H locs cells slots ad D cI cZ A H0 Qm ls hC hW hl hR)

theorem E_goto {Y : MY} {d pc : Nat} {l st : List Value} {hp : HP} {Q : Option Value → HP → Prop} {off : Int} {tgt : Nat} (hd : decode Y.2.1 pc = .ok (.goto off, 3)) (ht : (pc : Int) + off = (tgt : Int)) (kk : E Y d tgt l st hp Q) : E Y d pc l st hp Q := by
  intro p lch e R s m args below meth c H locs cells slots ad D cI cZ A H0 Qm ls hC hW hl hR
  exact lv_goto hC.1 hC.2.1 hd ht (kk p lch e R s m args below meth c H locs cells slots ad D cI cZ A H0 Qm ls hC hW hl hR)

theorem E_lookup {Y : MY} {d pc : Nat} {l st : List Value} {hp : HP} {Q : Option Value → HP → Prop} {dflt : Int} {ps : Array (Int × Int)} {len : Nat} {x : Int32} {off : Int} {tgt : Nat} (hd : decode Y.2.1 pc = .ok (.lookupswitch dflt ps, len)) (hps : (ps.toList.zip (ps.toList.drop 1)).all (fun (a, next) => a.1 < next.1) = true) (ho : Op.lookupswitch.offset ps.toList dflt x.toInt = off) (ht : (pc : Int) + off = (tgt : Int)) (kk : E Y d tgt l st hp Q) : E Y d pc l (.int x :: st) hp Q := by
  intro p lch e R s m args below meth c H locs cells slots ad D cI cZ A H0 Qm ls hC hW hl hR
  exact lv_lookup hC.1 hC.2.1 hd hps ho ht (kk p lch e R s m args below meth c H locs cells slots ad D cI cZ A H0 Qm ls hC hW hl hR)

theorem E_tableOut {Y : MY} {d pc : Nat} {l st : List Value} {hp : HP} {Q : Option Value → HP → Prop} {dflt lo hi : Int} {offs : Array Int} {len : Nat} {x : Int32} {tgt : Nat} (hd : decode Y.2.1 pc = .ok (.tableswitch dflt lo hi offs, len)) (h : x.toInt < lo ∨ hi < x.toInt) (ht : (pc : Int) + dflt = (tgt : Int)) (kk : E Y d tgt l st hp Q) : E Y d pc l (.int x :: st) hp Q := by
  intro p lch e R s m args below meth c H locs cells slots ad D cI cZ A H0 Qm ls hC hW hl hR
  exact lv_tableOut hC.1 hC.2.1 hd h ht (kk p lch e R s m args below meth c H locs cells slots ad D cI cZ A H0 Qm ls hC hW hl hR)

theorem E_tableIn {Y : MY} {d pc : Nat} {l st : List Value} {hp : HP} {Q : Option Value → HP → Prop} {dflt lo hi : Int} {offs : Array Int} {len : Nat} {x : Int32} {off : Int} {tgt : Nat} (hd : decode Y.2.1 pc = .ok (.tableswitch dflt lo hi offs, len)) (h1 : ¬ x.toInt < lo) (h2 : ¬ hi < x.toInt) (ho : offs[(x.toInt - lo).toNat]? = some off) (ht : (pc : Int) + off = (tgt : Int)) (kk : E Y d tgt l st hp Q) : E Y d pc l (.int x :: st) hp Q := by
  intro p lch e R s m args below meth c H locs cells slots ad D cI cZ A H0 Qm ls hC hW hl hR
  exact lv_tableIn hC.1 hC.2.1 hd h1 h2 ho ht (kk p lch e R s m args below meth c H locs cells slots ad D cI cZ A H0 Qm ls hC hW hl hR)

/-- what the tables say of class number ci; of a field's link -/
def CLS (ci : Nat) (C : String) (T : u_T) (N : Nat) (ty : Nat → FieldType) : Prop := vwCl[ci]? = some (C, T, N) ∧ (∀ w ∈ u_ws C T N, w ∈ gtbl) ∧ (∀ k, k < N → parseFieldDescriptor (T k).2.2.1 = some (ty k)) ∧ (∀ a, a < N → ∀ b, b < N → a ≠ b → (T a).2.1 ≠ (T b).2.1)
def FLK (own : String) (index ci k : Nat) (ty0 : FieldType) : Prop := ∃ (C : String) (T : u_T) (N : Nat) (ty : Nat → FieldType), CLS ci C T N ty ∧ k < N ∧ Cond.fieldLink own index C (T k).2.1 (T k).2.2.1 ∈ gtbl ∧ (T k).1 = C ∧ ty k = ty0
def FLP (ci k : Nat) : Prop := ∀ r : vw_C, vwCl[ci]? = some r → (r.2.1 k).2.2.2 = false

theorem E_get {Y : MY} {d pc : Nat} {l st : List Value} {hp : HP} {Q : Option Value → HP → Prop} {index ci k a : Nat} {ty : FieldType} {fs : List Value} {v : Value} (hd : decode Y.2.1 pc = .ok (.getfield index, 3)) (hF : FLK Y.1 index ci k ty) (ha : a < 50) (hk : hp a = .inr (ci, fs)) (hv : fs[k]? = some v) (kk : E Y d (pc + 3) l (v :: st) hp Q) : E Y d pc l (.ref a :: st) hp Q := by
  intro p lch e R s m args below meth c H locs cells slots ad D cI cZ A H0 Qm ls hC hW hl hR
  obtain ⟨C, T, N, ty, ⟨hc, hin, -, -⟩, hkN, hlink, hTC, -⟩ := hF
  refine va_get hC.1 hC.2.1 hC.2.2.2.2.2.2.1 hin hC.2.2.2.2.2.1 hW.1 hW.2.1 a (fs := fs.map (cv ad)) (by rw [mkW_get ha, hk]; rfl) hc k hkN (hC.2.2.2.2.2.2.1 _ hlink) (fun x h => by rw [hTC] at h; exact h) (v := cv ad v) (by rw [List.getElem?_map, hv]; rfl) hd (kk p lch e R s m args below meth c H locs cells slots ad D cI cZ A H0 Qm ls hC hW hl hR)

theorem E_put {Y : MY} {d pc : Nat} {l st : List Value} {hp : HP} {Q : Option Value → HP → Prop} {index ci k a : Nat} {ty : FieldType} {fs fs2 : List Value} {v : Value} (hd : decode Y.2.1 pc = .ok (.putfield index, 3)) (hF : FLK Y.1 index ci k ty) (hf : FLP ci k) (ha : a < 50) (hk : hp a = .inr (ci, fs)) (hn : ∀ ad : Nat → Nat, narrow ty (cv ad v) = cv ad v ∧ fits ty (cv ad v) = true) (hkl : k < fs.length) (hfs : fs.set k v = fs2) (kk : E Y d (pc + 3) l st (hup hp a (.inr (ci, fs2))) Q) : E Y d pc l (v :: .ref a :: st) hp Q := by
  intro p lch e R s m args below meth c H locs cells slots ad D cI cZ A H0 Qm ls hC hW hl hR
  obtain ⟨C, T, N, ty1, ⟨hc, hin, hty, hnm⟩, hkN, hlink, hTC, hty2⟩ := hF
  subst hfs
  refine va_put hC.1 hC.2.1 hC.2.2.2.2.2.2.1 hin ty1 hty hnm hC.2.2.2.2.2.1 hW.1 hW.2.1 hW.2.2.1 hW.2.2.2.1 a (fs := fs.map (cv ad)) (by rw [mkW_get ha, hk]; rfl) hc k hkN (hC.2.2.2.2.2.2.1 _ hlink) (fun x h => by rw [hTC] at h; exact h) (hf _ hc) (ty := ty) (v := cv ad v) (by rw [hty k hkN, hty2]) (hn ad).1 (hn ad).2 (by rw [List.length_map]; exact hkl) hd (fun H1 locs1 hP1 hD1 hS1 => ?_)
  have e9 : (mkW ad cI cZ hp).set a (ad a, .inr (ci, (fs.map (cv ad)).set k (cv ad v))) = mkW ad cI cZ (hup hp a (.inr (ci, fs.set k v))) := by
    rw [← mkW_set ha]
    simp [cE, List.map_set]
  rw [e9] at hP1 hD1
  exact kk p lch e R s m args below meth c H1 locs1 cells slots ad D cI cZ A H0 Qm ls hC ⟨hW.1, hP1, hD1, hS1, hW.2.2.2.2⟩ hl hR

theorem E_iald {Y : MY} {d pc : Nat} {l st : List Value} {hp : HP} {Q : Option Value → HP → Prop} {a n : Nat} {f : Nat → Int32} {i : Int32} (hd : decode Y.2.1 pc = .ok (.iaload, 1)) (ha : a < 50) (hk : hp a = .inl (false, n, f)) (hin : vp_in i n) (kk : E Y d (pc + 1) l (.int (f i.toNatClampNeg) :: st) hp Q) : E Y d pc l (.int i :: .ref a :: st) hp Q := by
  intro p lch e R s m args below meth c H locs cells slots ad D cI cZ A H0 Qm ls hC hW hl hR
  exact va_iald hC.1 hC.2.1 hW.1 hW.2.1 a 0 (by rw [mkW_get ha, hk]; rfl) rfl hin hd (kk p lch e R s m args below meth c H locs cells slots ad D cI cZ A H0 Qm ls hC hW hl hR)

theorem E_zald {Y : MY} {d pc : Nat} {l st : List Value} {hp : HP} {Q : Option Value → HP → Prop} {a n : Nat} {f : Nat → Int32} {i : Int32} (hd : decode Y.2.1 pc = .ok (.baload, 1)) (ha : a < 50) (hk : hp a = .inl (true, n, f)) (hin : vp_in i n) (kk : E Y d (pc + 1) l (.int (f i.toNatClampNeg) :: st) hp Q) : E Y d pc l (.int i :: .ref a :: st) hp Q := by
  intro p lch e R s m args below meth c H locs cells slots ad D cI cZ A H0 Qm ls hC hW hl hR
  exact va_zald hC.1 hC.2.1 hW.1 hW.2.1 a 1 (by rw [mkW_get ha, hk]; rfl) rfl hin hd (kk p lch e R s m args below meth c H locs cells slots ad D cI cZ A H0 Qm ls hC hW hl hR)

theorem E_iast {Y : MY} {d pc : Nat} {l st : List Value} {hp : HP} {Q : Option Value → HP → Prop} {a n : Nat} {f f2 : Nat → Int32} {i x : Int32} (hd : decode Y.2.1 pc = .ok (.iastore, 1)) (ha : a < 50) (hk : hp a = .inl (false, n, f)) (hin : vp_in i n) (hf : upd f i.toNatClampNeg x = f2) (kk : E Y d (pc + 1) l st (hup hp a (.inl (false, n, f2))) Q) : E Y d pc l (.int x :: .int i :: .ref a :: st) hp Q := by
  intro p lch e R s m args below meth c H locs cells slots ad D cI cZ A H0 Qm ls hC hW hl hR
  subst hf
  refine va_iast hC.1 hC.2.1 hW.1 hW.2.1 hW.2.2.1 hW.2.2.2.1 a 0 (cA := if false then cZ else cI) (n := n) (f := f) (by rw [mkW_get ha, hk]; rfl) rfl hin hd (fun H1 locs1 hP1 hD1 hS1 => ?_)
  have e9 : (mkW ad cI cZ hp).set a (ad a, .inl (if false then cZ else cI, n, .inl (upd f i.toNatClampNeg x))) = mkW ad cI cZ (hup hp a (.inl (false, n, upd f i.toNatClampNeg x))) := by
    rw [← mkW_set ha]
    rfl
  rw [e9] at hP1 hD1
  exact kk p lch e R s m args below meth c H1 locs1 cells slots ad D cI cZ A H0 Qm ls hC ⟨hW.1, hP1, hD1, hS1, hW.2.2.2.2⟩ hl hR

theorem E_zast {Y : MY} {d pc : Nat} {l st : List Value} {hp : HP} {Q : Option Value → HP → Prop} {a n : Nat} {f f2 : Nat → Int32} {i x : Int32} (hd : decode Y.2.1 pc = .ok (.bastore, 1)) (ha : a < 50) (hk : hp a = .inl (true, n, f)) (hin : vp_in i n) (hf : upd f i.toNatClampNeg (vp_nar .boolean x) = f2) (kk : E Y d (pc + 1) l st (hup hp a (.inl (true, n, f2))) Q) : E Y d pc l (.int x :: .int i :: .ref a :: st) hp Q := by
  intro p lch e R s m args below meth c H locs cells slots ad D cI cZ A H0 Qm ls hC hW hl hR
  subst hf
  refine va_zast hC.1 hC.2.1 hW.1 hW.2.1 hW.2.2.1 hW.2.2.2.1 a 1 (cA := if true then cZ else cI) (n := n) (f := f) (by rw [mkW_get ha, hk]; rfl) rfl hin hd (fun H1 locs1 hP1 hD1 hS1 => ?_)
  have e9 : (mkW ad cI cZ hp).set a (ad a, .inl (if true then cZ else cI, n, .inl (upd f i.toNatClampNeg (vp_nar .boolean x)))) = mkW ad cI cZ (hup hp a (.inl (true, n, upd f i.toNatClampNeg (vp_nar .boolean x)))) := by
    rw [← mkW_set ha]
    rfl
  rw [e9] at hP1 hD1
  exact kk p lch e R s m args below meth c H1 locs1 cells slots ad D cI cZ A H0 Qm ls hC ⟨hW.1, hP1, hD1, hS1, hW.2.2.2.2⟩ hl hR

theorem E_alen {Y : MY} {d pc : Nat} {l st : List Value} {hp : HP} {Q : Option Value → HP → Prop} {a n : Nat} {b : Bool} {f : Nat → Int32} {v : Int32} (hd : decode Y.2.1 pc = .ok (.arraylength, 1)) (ha : a < 50) (hk : hp a = .inl (b, n, f)) (hv : Int32.ofNat n = v) (kk : E Y d (pc + 1) l (.int v :: st) hp Q) : E Y d pc l (.ref a :: st) hp Q := by
  intro p lch e R s m args below meth c H locs cells slots ad D cI cZ A H0 Qm ls hC hW hl hR
  cases b
  · exact va_alen hC.1 hC.2.1 hW.1 hW.2.1 a 0 (x := (n, .inl f)) (by rw [mkW_get ha, hk]; rfl) rfl hv hd (kk p lch e R s m args below meth c H locs cells slots ad D cI cZ A H0 Qm ls hC hW hl hR)
  · exact va_alen hC.1 hC.2.1 hW.1 hW.2.1 a 1 (x := (n, .inl f)) (by rw [mkW_get ha, hk]; rfl) rfl hv hd (kk p lch e R s m args below meth c H locs cells slots ad D cI cZ A H0 Qm ls hC hW hl hR)

theorem E_sld {Y : MY} {d pc : Nat} {l st : List Value} {hp : HP} {Q : Option Value → HP → Prop} {L : Nat} {xs : Nat → Int32} {i : Int32} (hd : decode Y.2.1 pc = .ok (.iaload, 1)) (hsc : Y.2.2.2.2 = some (L, xs)) (hin : vp_in i L) (kk : E Y d (pc + 1) l (.int (xs i.toNatClampNeg) :: st) hp Q) : E Y d pc l (.int i :: .ref 50 :: st) hp Q := by
  intro p lch e R s m args below meth c H locs cells slots ad D cI cZ A H0 Qm ls hC hW hl hR
  have h9 := hW.2.2.2.2.2
  rw [hsc] at h9
  exact va_sld hC.1 hC.2.1 h9.1 h9.2.1 h9.2.2 hW.2.2.2.1 hin hd (kk p lch e R s m args below meth c H locs cells slots ad D cI cZ A H0 Qm ls hC hW hl hR)

theorem E_slen {Y : MY} {d pc : Nat} {l st : List Value} {hp : HP} {Q : Option Value → HP → Prop} {L : Nat} {xs : Nat → Int32} {v : Int32} (hd : decode Y.2.1 pc = .ok (.arraylength, 1)) (hsc : Y.2.2.2.2 = some (L, xs)) (hv : Int32.ofNat L = v) (kk : E Y d (pc + 1) l (.int v :: st) hp Q) : E Y d pc l (.ref 50 :: st) hp Q := by
  intro p lch e R s m args below meth c H locs cells slots ad D cI cZ A H0 Qm ls hC hW hl hR
  have h9 := hW.2.2.2.2.2
  rw [hsc] at h9
  subst hv
  exact va_slen hC.1 hC.2.1 h9.1 h9.2.1 h9.2.2 hW.2.2.2.1 hd (kk p lch e R s m args below meth c H locs cells slots ad D cI cZ A H0 Qm ls hC hW hl hR)

theorem E_iret {Y : MY} {d pc : Nat} {l st : List Value} {hp : HP} {Q : Option Value → HP → Prop} {x : Int32} {ty : FieldType} (hd : decode Y.2.1 pc = .ok (.ireturn, 1)) (hr : Y.2.2.2.1 = some ty) (hn : narrow ty (.int x) = .int x) (hQ : Q (some (.int x)) hp) : E Y d pc l [.int x] hp Q := by
  intro p lch e R s m args below meth c H locs cells slots ad D cI cZ A H0 Qm ls hC hW hl hR
  exact hR (some (.int x)) hp H locs pc ls hQ hW (Or.inl ⟨x, ty, rfl, hd, hr, hn⟩)

theorem E_lret {Y : MY} {d pc : Nat} {l st : List Value} {hp : HP} {Q : Option Value → HP → Prop} {x : Int64} (hd : decode Y.2.1 pc = .ok (.lreturn, 1)) (hr : Y.2.2.2.1 = some .long) (hQ : Q (some (.long x)) hp) : E Y d pc l [.long x] hp Q := by
  intro p lch e R s m args below meth c H locs cells slots ad D cI cZ A H0 Qm ls hC hW hl hR
  exact hR (some (.long x)) hp H locs pc ls hQ hW (Or.inr (Or.inl ⟨x, rfl, hd, hr⟩))

theorem E_vret {Y : MY} {d pc : Nat} {l st : List Value} {hp : HP} {Q : Option Value → HP → Prop}  (hd : decode Y.2.1 pc = .ok (.return_, 1)) (hr : Y.2.2.2.1 = none) (hQ : Q none hp) : E Y d pc l [] hp Q := by
  intro p lch e R s m args below meth c H locs cells slots ad D cI cZ A H0 Qm ls hC hW hl hR
  exact hR none hp H locs pc ls hQ hW (Or.inr (Or.inr ⟨rfl, hd, hr⟩))

theorem E_mono {Y : MY} {d pc : Nat} {l st : List Value} {hp : HP} {Q : Option Value → HP → Prop} {Q2 : Option Value → HP → Prop} (h : E Y d pc l st hp Q2) (hq : ∀ v h', Q2 v h' → Q v h') : E Y d pc l st hp Q := by
  intro p lch e R s m args below meth c H locs cells slots ad D cI cZ A H0 Qm ls hC hW hl hR
  exact h p lch e R s m args below meth c H locs cells slots ad D cI cZ A H0 Qm ls hC hW hl (fun v hp' H' locs' pc' ls' h1 => hR v hp' H' locs' pc' ls' (hq v hp' h1))
end
section
theorem entL_get (ad : Nat → Nat) : ∀ (vs : List Value) (j i : Nat) (v : Value), (entL vs)[i]? = some v → v ≠ .null → (j + i, cv ad v) ∈ lv_args j (vs.map (cv ad))
  | [], j, i, v, h, hv => by simp [entL] at h
  | w :: vs, j, i, v, h, hv => by
    rw [List.map_cons, lv_args, cv_cat]
    by_cases hc : w.category = 2
    · rw [entL, if_pos hc] at h
      rw [if_pos hc]
      match i, h with
      | 0, h =>
        simp at h
        subst h
        exact List.mem_cons_self
      | 1, h => simp at h; exact absurd h.symm hv
      | i + 2, h =>
        rw [List.getElem?_cons_succ, List.getElem?_cons_succ] at h
        have := entL_get ad vs (j + 2) i v h hv
        rw [show j + (i + 2) = j + 2 + i by omega]
        exact List.mem_cons_of_mem _ this
    · rw [entL, if_neg hc] at h
      rw [if_neg hc]
      match i, h with
      | 0, h =>
        simp at h
        subst h
        exact List.mem_cons_self
      | i + 1, h =>
        rw [List.getElem?_cons_succ] at h
        have := entL_get ad vs (j + 1) i v h hv
        rw [show j + (i + 1) = j + 1 + i by omega]
        exact List.mem_cons_of_mem _ this
theorem ent_get (ad : Nat → Nat) (n : Nat) (vs : List Value) (i : Nat) (v : Value) (h : (ent n vs)[i]? = some v) (hv : v ≠ .null) : (i, cv ad v) ∈ lv_args 0 (vs.map (cv ad)) := by
  have h2 : (entL vs)[i]? = some v := by
    unfold ent at h
    by_cases hi : i < (entL vs).length
    · rw [List.getElem?_append_left hi] at h
      exact h
    · rw [List.getElem?_append_right (by omega)] at h
      exact absurd (List.eq_of_mem_replicate (List.mem_of_getElem? h)) hv
  have := entL_get ad vs 0 i v h2 hv
  simpa using this
theorem sl_len (ad : Nat → Nat) : ∀ vs : List Value, (lg_sl (vs.map (cv ad))).length = (lg_sl vs).length
  | [] => rfl
  | v :: vs => by
    have := sl_len ad vs
    simp only [lg_sl, List.map_cons, List.flatMap_cons, List.length_append, cv_cat] at this ⊢
    rw [this]
    congr 1
    by_cases h : v.category = 2 <;> simp [h]
theorem sum_cat (ad : Nat → Nat) : ∀ vs : List Value, ((vs.map (cv ad)).map fun v => v.category).sum = (vs.map fun v => v.category).sum
  | [] => rfl
  | v :: vs => by
    simp only [List.map_cons, List.sum_cons, cv_cat, sum_cat ad vs]
theorem ent_lvr {ad : Nat → Nat} {n : Nat} {vs : List Value} (h : (lg_sl vs).length ≤ n) : lvr ad ((lg_sl (vs.map (cv ad)) ++ List.replicate (n - (lg_sl (vs.map (cv ad))).length) Slot.unset).toArray) n (ent n vs) := by
  have h0 := lv_entry (vs.map (cv ad)) (n := n) (by rw [sl_len]; exact h)
  refine ⟨h0.1, h0.2.1, fun q hq => ?_⟩
  obtain ⟨k, v, h1, h2, rfl⟩ := alf_mem _ _ _ hq
  rw [Nat.zero_add]
  exact h0.2.2 _ (ent_get ad n vs k v h1 h2)
/-! a method's contract out of E, and the calls -/
def rmd (d : Nat) : Room := { frames := d, cells := 0, slots := 0, locals := 40 * d }
def wsd (y : MethodName) (Y : MY) : List Cond := .code y Y.2.1 Y.2.2.1 Y.2.2.2.1 :: gtbl
def BW (D : va_G) (cI cZ : ClassId) (ad : Nat → Nat) (hp : HP) (sz : Nat) (U : State) : Prop :=
  U.heap.size = sz ∧ va_P D vwCl (mkW ad cI cZ hp) U.heap ∧ va_K D vwCl [(cI, .int), (cZ, .boolean)] U ∧ va_D (fun _ => True) (mkW ad cI cZ hp) ∧ (∀ q ∈ nests, va_Nw (.methodLinkNest q.1 q.2.1 q.2.2.1 q.2.2.2) U)
def QcE (D : va_G) (cI cZ : ClassId) (ad : Nat → Nat) (hp : HP) (sz : Nat) (Q : Option Value → HP → Prop) : Array Value → State → Outcome → State → Prop := fun _ st oc t =>
  (∃ (v : Option Value) (hp' : HP), oc = .returned (v.map (cv ad)) ∧ Q v hp' ∧ va_P D vwCl (mkW ad cI cZ hp') t.heap) ∧ va_F (va_A (mkW ad cI cZ hp) sz) st t
theorem BW_blind {D : va_G} {cI cZ : ClassId} {ad : Nat → Nat} {hp : HP} {sz : Nat} {av : List Value} : FrameBlind (va_Pc av (BW D cI cZ ad hp sz)) := by
  intro a U g mk q
  obtain ⟨q0, q1, q2, q3, q4, q5⟩ := q
  exact ⟨q0, q1, q2, va_K.moved (u := U) (U := U.calling g mk a) (Vm.Alike.refl U.vm) q3, q4, fun w hw => va_Nw.same rfl (u := U) rfl (q5 w hw)⟩
set_option maxHeartbeats 1000000 in
theorem met_of_E {l : Launch} {y : MethodName} {Y : MY} {d : Nat} {As : List Value} {hp : HP} {Q : Option Value → HP → Prop} (hpl : plainName y.cls = true) (hY : Y.1 = y.cls) (hsc : Y.2.2.2.2 = none) (hfit : (lg_sl As).length ≤ Y.2.2.1) (hE : E Y d 0 (ent Y.2.2.1 As) [] hp Q) (D : va_G) (cI cZ : ClassId) (ad : Nat → Nat) (sz : Nat) :
    Met l y (wsd y Y) (rmd d) (va_Pc (As.map (cv ad)) (BW D cI cZ ad hp sz)) (QcE D cI cZ ad hp sz Q) 0 0 (va_A (mkW ad cI cZ hp) sz) := by
  refine Met.ofW (cc := Y.2.1) (maxL := Y.2.2.1) (ret := Y.2.2.2.1) hpl rfl ?_
  intro p e s m args below meth c s₁ B hml hv
  obtain ⟨rfl, hsz, hP, hK, hD0, hN⟩ := hv
  have hx := B.exec
  have hb := B.bytes
  have hr := B.returns
  have hts := atoms_spec (ws := wsd y Y) B.pre
  have hown : s.vm.findClass Y.1 = some m.cls := by rw [hY]; exact findClass_of_methodNamed B.named
  have hlocks := B.notSynchronized
  subst hsz
  have hD := hD0.self (sz := s.heap.size)
  have hS : va_S (va_A (mkW ad cI cZ hp) s.heap.size) s.heap s.heap [] := va_S.rf
  rw [lg_entry_eq]
  refine hE p l e (rmd d) s m _ below meth c s.heap [] 0 0 ad D cI cZ (va_A (mkW ad cI cZ hp) s.heap.size) s.heap _ _ ⟨hx, hb, hml, hr, hlocks, hown, fun w hw => hts w (List.mem_cons_of_mem _ hw), hN, Nat.le_refl _, Nat.le_refl _, Nat.le_refl _, Nat.le_refl _⟩ ⟨hK, hP, hD, hS, fun q h => Or.inr h, by rw [hsc]; trivial⟩ (ent_lvr hfit) ?_
  intro v hp' H' locs' pc' ls' hQ hW hT
  obtain ⟨hK2, hP2, hD2, hS2, -⟩ := hW
  rcases hT with ⟨x, ty, rfl, hd, h1, h2⟩ | ⟨x, rfl, hd, h1⟩ | ⟨rfl, hd, h1⟩
  · exact W.zret (v := x) hx hb (hr.trans h1) h2 (fun t ht hWm => ⟨⟨some (.int x), hp', rfl, hQ, by rw [ht]; exact hP2⟩, hS2.F ht⟩) hS2.2.2 hd hlocks
  · exact W.lret (v := x) hx hb (hr.trans h1) (fun t ht hWm => ⟨⟨some (.long x), hp', rfl, hQ, by rw [ht]; exact hP2⟩, hS2.F ht⟩) hS2.2.2 hd hlocks
  · exact W.vret hx hb (hr.trans h1) (fun t ht hWm => ⟨⟨none, hp', rfl, hQ, by rw [ht]; exact hP2⟩, hS2.F ht⟩) hS2.2.2 hd hlocks
/-- what the tables say of a method that is called -/
def MTH (y : MethodName) (Y : MY) (n : Nat) : Prop := Cond.initialized y.cls ∈ gtbl ∧ Cond.code y Y.2.1 Y.2.2.1 Y.2.2.2.1 ∈ gtbl ∧ (y.cls ≠ "java/lang/invoke/MethodHandle" ∧ y.cls ≠ "java/lang/invoke/VarHandle" ∧ (parseMethodDescriptor y.desc).map (fun d => d.parameters.length) = some n) ∧ plainName y.cls = true ∧ Y.1 = y.cls ∧ Y.2.2.2.2 = none ∧ Y.2.2.1 ≤ 21
theorem good_wsd {y : MethodName} {Y : MY} {n : Nat} (h : MTH y Y n) : GoodIn gtbl (wsd y Y) := by
  intro w hw
  rcases List.mem_cons.mp hw with rfl | hw
  · exact ⟨h.2.1, gtbl_good h.2.1⟩
  · exact ⟨hw, gtbl_good hw⟩

/-- behind a call, its own world whole -/
theorem E_goon {p : Program} {lch : Launch} {e : Env} {R : Room} {s : State} {m : MethodId} {args : Array Value} {below : List Frame} {meth : Method} {c : Code} {H : Heap} {locs : List Loc} {cells slots pc : Nat} {ad : Nat → Nat} {D : va_G} {cI cZ : ClassId} {A : Nat → Prop} {H0 : Heap} {Qm : State → Prop} {ls : Array Slot} {Y : MY} {hp : HP} {a : Array Value} {st0 rest : List Value} {Q1 : Option Value → HP → Prop}
    (hr : va_Run p lch e R s m args below meth c H locs cells slots 0 0 (F0 m pc ls st0) rest (QcE D cI cZ ad hp H.size Q1 a) (va_A (mkW ad cI cZ hp) H.size)) (hW : WLD Y ad D cI cZ A H0 s hp H locs)
    (kk : ∀ (v : Option Value) (hp' : HP) (H1 : Heap) (locs1 : List Loc), Q1 v hp' → WLD Y ad D cI cZ A H0 s hp' H1 locs1 → W p lch e R s m args below meth c H1 locs1 cells slots Qm (F0 m (pc + 3) ls ((v.map (cv ad)).toList ++ rest))) : W p lch e R s m args below meth c H locs cells slots Qm (F0 m pc ls st0) := by
  obtain ⟨hK, hP, hD, hS, hA, hX⟩ := hW
  intro T hT X
  obtain ⟨v, st₀, t, T', L, h0, X', hL, e1, e2, ⟨⟨v', hp', hv, hq, hp1⟩, hz, hk⟩, st⟩ := hr T hT X
  cases hv
  rw [h0] at hz hk
  have hf : ∀ q, va_A (mkW ad cI cZ hp) H.size q → A q := by
    intro q h
    rcases h with ⟨k, e', h⟩ | h
    · exact hD.2 k _ h
    · exact hA q (Nat.le_trans hS.1 h)
  obtain ⟨t2, a1, b1⟩ := kk v' hp' T'.heap (locs ++ L) hq ⟨hK, by rw [e1]; exact hp1, mkW_D hD, ⟨Nat.le_trans hS.1 (by rw [e1]; exact hz), fun q h1 h2 => by rw [e1, hk q (Nat.lt_of_lt_of_le h1 hS.1) (fun z => h2 (hf q z))]; exact hS.2.1 q h1 h2, fun q hq => by
      rcases List.mem_append.mp hq with h | h
      · exact hS.2.2 q h
      · exact hf _ (hL q h)⟩, hA, hX⟩ T' rfl X'
  exact ⟨t2, st t2 a1, b1⟩

set_option maxHeartbeats 1000000 in
theorem E_callS {Y Y' : MY} {d pc n index : Nat} {l l' st As : List Value} {hp : HP} {Q Q' : Option Value → HP → Prop} {y : MethodName}  (hd : decode Y.2.1 pc = .ok (.invokestatic index, 3)) (hlk : Cond.methodLink Y.1 index y ∈ gtbl) (hstat : Cond.static y ∈ gtbl) (hM : MTH y Y' n) (hn : As.length = n) (hent : ent Y'.2.2.1 As = l') (hfit : (lg_sl As).length ≤ Y'.2.2.1) (hCT : E Y' d 0 l' [] hp Q') (hroom : (st.map fun v => v.category).sum ≤ 8) (kk : ∀ v hp', Q' v hp' → E Y (d + 1) (pc + 3) l (v.toList ++ st) hp' Q) : E Y (d + 1) pc l (As.reverse ++ st) hp Q := by
  intro p lch e R s m args below meth c H locs cells slots ad D cI cZ A H0 Qm ls hC hW hl hR
  subst hent
  obtain ⟨hini, hcode, hdd, hpl, hY1, hsc, hml⟩ := id hM
  have hMet := met_of_E (l := lch) (y := y) hpl hY1 hsc hfit hCT D cI cZ ad H.size
  have hts : ∀ w ∈ gtbl, w.before args s = true := hC.2.2.2.2.2.2.1
  have hRm : (rmd d).frames + 1 ≤ R.frames ∧ 8 + (Y'.2.2.1 + 11) + (rmd d).locals ≤ R.locals := by
    have h1 := hC.2.2.2.2.2.2.2.2.1
    have h2 := hC.2.2.2.2.2.2.2.2.2.1
    simp only [rmd]
    omega
  have hBl : PreS s H (va_Pc ((As).map (cv ad)) (BW D cI cZ ad hp H.size)) ((As).map (cv ad)) := ⟨BW_blind, fun U hU hWm => ⟨rfl, by rw [hU], by rw [hU]; exact hW.2.1, va_K.moved hWm.alike hW.1, hW.2.2.1.weaken (fun _ _ _ _ => trivial), fun q hq => va_Nw.warmM hWm (hC.2.2.2.2.2.2.2.1 q hq)⟩⟩
  have hSt : (((As.reverse ++ st) : List Value).map (cv ad)) = (As.map (cv ad)).reverse ++ st.map (cv ad) := by simp [cv]
  have hfx : CallFix p m c Y.2.1 Y.2.2.1 s args gtbl Y.1 := ⟨hC.1, hC.2.1, hC.2.2.1, hC.2.2.2.2.2.1, hts⟩
  have hcs : cells + 0 ≤ R.cells ∧ slots + 0 ≤ R.slots := ⟨hC.2.2.2.2.2.2.2.2.2.2.1, hC.2.2.2.2.2.2.2.2.2.2.2⟩
  have hrm : ((st.map (cv ad)).map fun v => v.category).sum ≤ 8 := by rw [sum_cat]; exact hroom
  have hRun := va_runS (l := lch) (e := e) (H := H) (below := below) (meth := meth) (locs := locs) (cells := cells) (slots := slots) (As := As.map (cv ad)) (rest := st.map (cv ad)) (g := F0 m pc ls ((As.reverse ++ st).map (cv ad))) (mc := 0) (ms := 0) hfx hMet ⟨callB_of n hts (good_wsd hM) rfl rfl rfl (hts _ hini) (hts _ hlk) hdd hRm, hts _ hstat⟩ hBl rfl (by rw [List.length_map]; exact hn) hl.1 hSt (lv_room hrm) hd hcs
  refine E_goon (rest := st.map (cv ad)) (a := ((As).map (cv ad)).toArray) hRun hW (fun v hp' H1 locs1 hq hW1 => ?_)
  have := kk v hp' hq p lch e R s m args below meth c H1 locs1 cells slots ad D cI cZ A H0 Qm ls hC hW1 hl hR
  cases v <;> exact this

set_option maxHeartbeats 1000000 in
theorem E_callN {Y Y' : MY} {d pc n index : Nat} {l l' st As : List Value} {hp : HP} {Q Q' : Option Value → HP → Prop} {y : MethodName}  (hd : decode Y.2.1 pc = .ok (.invokestatic index, 3)) {host : String} (hlk : (Y.1, index, y, host) ∈ nests) (hstat : Cond.static y ∈ gtbl) (hM : MTH y Y' n) (hn : As.length = n) (hent : ent Y'.2.2.1 As = l') (hfit : (lg_sl As).length ≤ Y'.2.2.1) (hCT : E Y' d 0 l' [] hp Q') (hroom : (st.map fun v => v.category).sum ≤ 8) (kk : ∀ v hp', Q' v hp' → E Y (d + 1) (pc + 3) l (v.toList ++ st) hp' Q) : E Y (d + 1) pc l (As.reverse ++ st) hp Q := by
  intro p lch e R s m args below meth c H locs cells slots ad D cI cZ A H0 Qm ls hC hW hl hR
  subst hent
  obtain ⟨hini, hcode, hdd, hpl, hY1, hsc, hml⟩ := id hM
  have hMet := met_of_E (l := lch) (y := y) hpl hY1 hsc hfit hCT D cI cZ ad H.size
  have hts : ∀ w ∈ gtbl, w.before args s = true := hC.2.2.2.2.2.2.1
  have hRm : (rmd d).frames + 1 ≤ R.frames ∧ 8 + (Y'.2.2.1 + 11) + (rmd d).locals ≤ R.locals := by
    have h1 := hC.2.2.2.2.2.2.2.2.1
    have h2 := hC.2.2.2.2.2.2.2.2.2.1
    simp only [rmd]
    omega
  have hBl : PreS s H (va_Pc ((As).map (cv ad)) (BW D cI cZ ad hp H.size)) ((As).map (cv ad)) := ⟨BW_blind, fun U hU hWm => ⟨rfl, by rw [hU], by rw [hU]; exact hW.2.1, va_K.moved hWm.alike hW.1, hW.2.2.1.weaken (fun _ _ _ _ => trivial), fun q hq => va_Nw.warmM hWm (hC.2.2.2.2.2.2.2.1 q hq)⟩⟩
  have hSt : (((As.reverse ++ st) : List Value).map (cv ad)) = (As.map (cv ad)).reverse ++ st.map (cv ad) := by simp [cv]
  have hfx : CallFix p m c Y.2.1 Y.2.2.1 s args gtbl Y.1 := ⟨hC.1, hC.2.1, hC.2.2.1, hC.2.2.2.2.2.1, hts⟩
  have hcs : cells + 0 ≤ R.cells ∧ slots + 0 ≤ R.slots := ⟨hC.2.2.2.2.2.2.2.2.2.2.1, hC.2.2.2.2.2.2.2.2.2.2.2⟩
  have hrm : ((st.map (cv ad)).map fun v => v.category).sum ≤ 8 := by rw [sum_cat]; exact hroom
  have hRun := va_runSN (l := lch) (e := e) (H := H) (below := below) (meth := meth) (locs := locs) (cells := cells) (slots := slots) (As := As.map (cv ad)) (rest := st.map (cv ad)) (g := F0 m pc ls ((As.reverse ++ st).map (cv ad))) (mc := 0) (ms := 0) hfx hMet ⟨va_cnB n hts (good_wsd hM) rfl rfl rfl (hC.2.2.2.2.2.2.2.1 _ hlk) (hts _ hini) hdd hRm, hts _ hstat, trivial⟩ hBl rfl (by rw [List.length_map]; exact hn) hl.1 hSt (lv_room hrm) hd hcs
  refine E_goon (rest := st.map (cv ad)) (a := ((As).map (cv ad)).toArray) hRun hW (fun v hp' H1 locs1 hq hW1 => ?_)
  have := kk v hp' hq p lch e R s m args below meth c H1 locs1 cells slots ad D cI cZ A H0 Qm ls hC hW1 hl hR
  cases v <;> exact this

set_option maxHeartbeats 1000000 in
theorem E_callV {Y Y' : MY} {d pc n index : Nat} {l l' st As : List Value} {hp : HP} {Q Q' : Option Value → HP → Prop} {y : MethodName} {a ci N : Nat} {fs : List Value} {T : u_T} (hd : decode Y.2.1 pc = .ok (.invokevirtual index, 3)) (hlk : Cond.methodLink Y.1 index y ∈ gtbl) (hinst : Cond.instanceMethod y ∈ gtbl) (hsel : Cond.selects y.cls y y ∈ gtbl) (ha : a < 50) (hk : hp a = .inr (ci, fs)) (hcl : vwCl[ci]? = some (y.cls, T, N)) (hM : MTH y Y' n) (hn : As.length = n) (hent : ent Y'.2.2.1 (Value.ref a :: As) = l') (hfit : (lg_sl (Value.ref a :: As)).length ≤ Y'.2.2.1) (hCT : E Y' d 0 l' [] hp Q') (hroom : (st.map fun v => v.category).sum ≤ 8) (kk : ∀ v hp', Q' v hp' → E Y (d + 1) (pc + 3) l (v.toList ++ st) hp' Q) : E Y (d + 1) pc l (As.reverse ++ Value.ref a :: st) hp Q := by
  intro p lch e R s m args below meth c H locs cells slots ad D cI cZ A H0 Qm ls hC hW hl hR
  subst hent
  obtain ⟨hini, hcode, hdd, hpl, hY1, hsc, hml⟩ := id hM
  have hMet := met_of_E (l := lch) (y := y) hpl hY1 hsc hfit hCT D cI cZ ad H.size
  have hts : ∀ w ∈ gtbl, w.before args s = true := hC.2.2.2.2.2.2.1
  have hRm : (rmd d).frames + 1 ≤ R.frames ∧ 8 + (Y'.2.2.1 + 11) + (rmd d).locals ≤ R.locals := by
    have h1 := hC.2.2.2.2.2.2.2.2.1
    have h2 := hC.2.2.2.2.2.2.2.2.2.1
    simp only [rmd]
    omega
  have hBl : PreS s H (va_Pc (((Value.ref a :: As)).map (cv ad)) (BW D cI cZ ad hp H.size)) (((Value.ref a :: As)).map (cv ad)) := ⟨BW_blind, fun U hU hWm => ⟨rfl, by rw [hU], by rw [hU]; exact hW.2.1, va_K.moved hWm.alike hW.1, hW.2.2.1.weaken (fun _ _ _ _ => trivial), fun q hq => va_Nw.warmM hWm (hC.2.2.2.2.2.2.2.1 q hq)⟩⟩
  have hSt : (((As.reverse ++ Value.ref a :: st) : List Value).map (cv ad)) = (As.map (cv ad)).reverse ++ Value.ref (ad a) :: st.map (cv ad) := by simp [cv]
  have hfx : CallFix p m c Y.2.1 Y.2.2.1 s args gtbl Y.1 := ⟨hC.1, hC.2.1, hC.2.2.1, hC.2.2.2.2.2.1, hts⟩
  have hcs : cells + 0 ≤ R.cells ∧ slots + 0 ≤ R.slots := ⟨hC.2.2.2.2.2.2.2.2.2.2.1, hC.2.2.2.2.2.2.2.2.2.2.2⟩
  have hrm : ((st.map (cv ad)).map fun v => v.category).sum ≤ 8 := by rw [sum_cat]; exact hroom
  have hPV : PreV s H y.cls (ad a) (va_Pc ((Value.ref a :: As).map (cv ad)) (BW D cI cZ ad hp H.size)) (As.map (cv ad)) := ⟨hBl.1, va_recv hW.1 hW.2.1 (ci := ci) (q0 := a) (fs := fs.map (cv ad)) hcl (by rw [mkW_get ha, hk]; rfl), hBl.2⟩
  have hRun := va_runV (l := lch) (e := e) (H := H) (below := below) (meth := meth) (locs := locs) (cells := cells) (slots := slots) (C := y.cls) (b := ad a) (As := As.map (cv ad)) (rest := st.map (cv ad)) (g := F0 m pc ls ((As.reverse ++ Value.ref a :: st).map (cv ad))) (mc := 0) (ms := 0) hfx hMet ⟨callB_of n hts (good_wsd hM) rfl rfl rfl (hts _ hini) (hts _ hlk) hdd hRm, hts _ hinst, hts _ hsel⟩ hPV rfl (by rw [List.length_map]; exact hn) hl.1 hSt (lv_room hrm) hd hcs
  refine E_goon (rest := st.map (cv ad)) (a := (((Value.ref a :: As)).map (cv ad)).toArray) hRun hW (fun v hp' H1 locs1 hq hW1 => ?_)
  have := kk v hp' hq p lch e R s m args below meth c H1 locs1 cells slots ad D cI cZ A H0 Qm ls hC hW1 hl hR
  cases v <;> exact this
end
