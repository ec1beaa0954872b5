section
-- ===== PART A: goes FIRST, ahead of the names: the tables' words, and 'selects' of the private methods out of them =====
/-- a private method of a class that the tables say can be made, by its rows of tables_1 -/
def lw_okq (q : MethodName × Nat) : Prop := (q.1.cls ≠ "java/lang/invoke/MethodHandle" ∧ q.1.cls ≠ "java/lang/invoke/VarHandle") ∧ Cond.instantiable q.1.cls q.2 ∈ tables_1 ∧ Cond.privateMethod q.1 ∈ tables_1 ∧ Cond.instanceMethod q.1 ∈ tables_1
theorem lw_p0 : lw_okq (⟨"TurfHeaps", "fewestCovered", "(II)I"⟩, 10) := ⟨⟨by decide +kernel, by decide +kernel⟩, List.mem_of_getElem? (i := 12) (by decide +kernel), List.mem_of_getElem? (i := 362) (by decide +kernel), List.mem_of_getElem? (i := 363) (by decide +kernel)⟩
theorem lw_p1 : lw_okq (⟨"TurfHeaps", "mostLeft", "(II)I"⟩, 10) := ⟨⟨by decide +kernel, by decide +kernel⟩, List.mem_of_getElem? (i := 12) (by decide +kernel), List.mem_of_getElem? (i := 441) (by decide +kernel), List.mem_of_getElem? (i := 442) (by decide +kernel)⟩
theorem lw_p2 : lw_okq (⟨"TurfHeaps", "countLeft", "(III)I"⟩, 10) := ⟨⟨by decide +kernel, by decide +kernel⟩, List.mem_of_getElem? (i := 12) (by decide +kernel), List.mem_of_getElem? (i := 445) (by decide +kernel), List.mem_of_getElem? (i := 446) (by decide +kernel)⟩
theorem lw_p3 : lw_okq (⟨"TurfHeaps", "learnRowValues", "(I)V"⟩, 10) := ⟨⟨by decide +kernel, by decide +kernel⟩, List.mem_of_getElem? (i := 12) (by decide +kernel), List.mem_of_getElem? (i := 456) (by decide +kernel), List.mem_of_getElem? (i := 457) (by decide +kernel)⟩
theorem lw_p4 : lw_okq (⟨"TurfHeaps", "leastNotReached", "(I)I"⟩, 10) := ⟨⟨by decide +kernel, by decide +kernel⟩, List.mem_of_getElem? (i := 12) (by decide +kernel), List.mem_of_getElem? (i := 460) (by decide +kernel), List.mem_of_getElem? (i := 461) (by decide +kernel)⟩
theorem lw_p5 : lw_okq (⟨"TurfHeaps", "winningTake", "(I)I"⟩, 10) := ⟨⟨by decide +kernel, by decide +kernel⟩, List.mem_of_getElem? (i := 12) (by decide +kernel), List.mem_of_getElem? (i := 464) (by decide +kernel), List.mem_of_getElem? (i := 465) (by decide +kernel)⟩
theorem lw_p6 : lw_okq (⟨"TurfHeaps", "toldOfHeap", "(II)I"⟩, 10) := ⟨⟨by decide +kernel, by decide +kernel⟩, List.mem_of_getElem? (i := 12) (by decide +kernel), List.mem_of_getElem? (i := 515) (by decide +kernel), List.mem_of_getElem? (i := 516) (by decide +kernel)⟩
theorem lw_p7 : lw_okq (⟨"TurfHeapsModel", "faultOf", "()I"⟩, 20) := ⟨⟨by decide +kernel, by decide +kernel⟩, List.mem_of_getElem? (i := 519) (by decide +kernel), List.mem_of_getElem? (i := 616) (by decide +kernel), List.mem_of_getElem? (i := 617) (by decide +kernel)⟩
theorem lw_p8 : lw_okq (⟨"TurfHeapsModel", "goWeeks", "()I"⟩, 20) := ⟨⟨by decide +kernel, by decide +kernel⟩, List.mem_of_getElem? (i := 519) (by decide +kernel), List.mem_of_getElem? (i := 624) (by decide +kernel), List.mem_of_getElem? (i := 625) (by decide +kernel)⟩
theorem lw_p9 : lw_okq (⟨"TurfHeapsModel", "asNow", "()V"⟩, 20) := ⟨⟨by decide +kernel, by decide +kernel⟩, List.mem_of_getElem? (i := 519) (by decide +kernel), List.mem_of_getElem? (i := 628) (by decide +kernel), List.mem_of_getElem? (i := 629) (by decide +kernel)⟩
theorem lw_p10 : lw_okq (⟨"TurfHeapsModel", "endNight", "()I"⟩, 20) := ⟨⟨by decide +kernel, by decide +kernel⟩, List.mem_of_getElem? (i := 519) (by decide +kernel), List.mem_of_getElem? (i := 632) (by decide +kernel), List.mem_of_getElem? (i := 633) (by decide +kernel)⟩
theorem lw_p11 : lw_okq (⟨"TurfHeapsModel", "burn", "()I"⟩, 20) := ⟨⟨by decide +kernel, by decide +kernel⟩, List.mem_of_getElem? (i := 519) (by decide +kernel), List.mem_of_getElem? (i := 636) (by decide +kernel), List.mem_of_getElem? (i := 637) (by decide +kernel)⟩
theorem lw_p12 : lw_okq (⟨"TurfHeapsModel", "turf", "(II)I"⟩, 20) := ⟨⟨by decide +kernel, by decide +kernel⟩, List.mem_of_getElem? (i := 519) (by decide +kernel), List.mem_of_getElem? (i := 649) (by decide +kernel), List.mem_of_getElem? (i := 650) (by decide +kernel)⟩
theorem lw_p13 : lw_okq (⟨"TurfHeapsModel", "kindle", "(I)I"⟩, 20) := ⟨⟨by decide +kernel, by decide +kernel⟩, List.mem_of_getElem? (i := 519) (by decide +kernel), List.mem_of_getElem? (i := 653) (by decide +kernel), List.mem_of_getElem? (i := 654) (by decide +kernel)⟩
theorem lw_p14 : lw_okq (⟨"TurfHeapsModel", "watch", "(I)I"⟩, 20) := ⟨⟨by decide +kernel, by decide +kernel⟩, List.mem_of_getElem? (i := 519) (by decide +kernel), List.mem_of_getElem? (i := 657) (by decide +kernel), List.mem_of_getElem? (i := 658) (by decide +kernel)⟩
theorem lw_p15 : lw_okq (⟨"TurfHeapsModel", "stack", "(II)I"⟩, 20) := ⟨⟨by decide +kernel, by decide +kernel⟩, List.mem_of_getElem? (i := 519) (by decide +kernel), List.mem_of_getElem? (i := 661) (by decide +kernel), List.mem_of_getElem? (i := 662) (by decide +kernel)⟩
def lw_privs_1 : List (MethodName × Nat) := [(⟨"TurfHeaps", "fewestCovered", "(II)I"⟩, 10), (⟨"TurfHeaps", "mostLeft", "(II)I"⟩, 10), (⟨"TurfHeaps", "countLeft", "(III)I"⟩, 10), (⟨"TurfHeaps", "learnRowValues", "(I)V"⟩, 10), (⟨"TurfHeaps", "leastNotReached", "(I)I"⟩, 10), (⟨"TurfHeaps", "winningTake", "(I)I"⟩, 10), (⟨"TurfHeaps", "toldOfHeap", "(II)I"⟩, 10), (⟨"TurfHeapsModel", "faultOf", "()I"⟩, 20), (⟨"TurfHeapsModel", "goWeeks", "()I"⟩, 20), (⟨"TurfHeapsModel", "asNow", "()V"⟩, 20), (⟨"TurfHeapsModel", "endNight", "()I"⟩, 20), (⟨"TurfHeapsModel", "burn", "()I"⟩, 20), (⟨"TurfHeapsModel", "turf", "(II)I"⟩, 20), (⟨"TurfHeapsModel", "kindle", "(I)I"⟩, 20), (⟨"TurfHeapsModel", "watch", "(I)I"⟩, 20), (⟨"TurfHeapsModel", "stack", "(II)I"⟩, 20)]
theorem lw_r1 : ∀ q ∈ lw_privs_1, lw_okq q := List.forall_mem_cons.mpr ⟨lw_p0, List.forall_mem_cons.mpr ⟨lw_p1, List.forall_mem_cons.mpr ⟨lw_p2, List.forall_mem_cons.mpr ⟨lw_p3, List.forall_mem_cons.mpr ⟨lw_p4, List.forall_mem_cons.mpr ⟨lw_p5, List.forall_mem_cons.mpr ⟨lw_p6, List.forall_mem_cons.mpr ⟨lw_p7, List.forall_mem_cons.mpr ⟨lw_p8, List.forall_mem_cons.mpr ⟨lw_p9, List.forall_mem_cons.mpr ⟨lw_p10, List.forall_mem_cons.mpr ⟨lw_p11, List.forall_mem_cons.mpr ⟨lw_p12, List.forall_mem_cons.mpr ⟨lw_p13, List.forall_mem_cons.mpr ⟨lw_p14, List.forall_mem_cons.mpr ⟨lw_p15, fun _ h => absurd h List.not_mem_nil⟩⟩⟩⟩⟩⟩⟩⟩⟩⟩⟩⟩⟩⟩⟩⟩
theorem lw_p16 : lw_okq (⟨"TurfHeapsModel", "barOfWeeks", "()I"⟩, 20) := ⟨⟨by decide +kernel, by decide +kernel⟩, List.mem_of_getElem? (i := 519) (by decide +kernel), List.mem_of_getElem? (i := 669) (by decide +kernel), List.mem_of_getElem? (i := 670) (by decide +kernel)⟩
theorem lw_p17 : lw_okq (⟨"TurfHeapsModel", "chainOf", "(II)I"⟩, 20) := ⟨⟨by decide +kernel, by decide +kernel⟩, List.mem_of_getElem? (i := 519) (by decide +kernel), List.mem_of_getElem? (i := 685) (by decide +kernel), List.mem_of_getElem? (i := 686) (by decide +kernel)⟩
theorem lw_p18 : lw_okq (⟨"TurfHeapsModel", "canBeDrawn", "(II)Z"⟩, 20) := ⟨⟨by decide +kernel, by decide +kernel⟩, List.mem_of_getElem? (i := 519) (by decide +kernel), List.mem_of_getElem? (i := 698) (by decide +kernel), List.mem_of_getElem? (i := 699) (by decide +kernel)⟩
theorem lw_p19 : lw_okq (⟨"TurfHeapsModel", "isFit", "(I)Z"⟩, 20) := ⟨⟨by decide +kernel, by decide +kernel⟩, List.mem_of_getElem? (i := 519) (by decide +kernel), List.mem_of_getElem? (i := 718) (by decide +kernel), List.mem_of_getElem? (i := 719) (by decide +kernel)⟩
theorem lw_p20 : lw_okq (⟨"TurfHeapsModel", "layWorth", "(I)V"⟩, 20) := ⟨⟨by decide +kernel, by decide +kernel⟩, List.mem_of_getElem? (i := 519) (by decide +kernel), List.mem_of_getElem? (i := 734) (by decide +kernel), List.mem_of_getElem? (i := 735) (by decide +kernel)⟩
def lw_privs_2 : List (MethodName × Nat) := [(⟨"TurfHeapsModel", "barOfWeeks", "()I"⟩, 20), (⟨"TurfHeapsModel", "chainOf", "(II)I"⟩, 20), (⟨"TurfHeapsModel", "canBeDrawn", "(II)Z"⟩, 20), (⟨"TurfHeapsModel", "isFit", "(I)Z"⟩, 20), (⟨"TurfHeapsModel", "layWorth", "(I)V"⟩, 20)]
theorem lw_r2 : ∀ q ∈ lw_privs_2, lw_okq q := List.forall_mem_cons.mpr ⟨lw_p16, List.forall_mem_cons.mpr ⟨lw_p17, List.forall_mem_cons.mpr ⟨lw_p18, List.forall_mem_cons.mpr ⟨lw_p19, List.forall_mem_cons.mpr ⟨lw_p20, fun _ h => absurd h List.not_mem_nil⟩⟩⟩⟩⟩
def lw_privs : List (MethodName × Nat) := lw_privs_1 ++ (lw_privs_2)
def lw_tbl : List Cond := k2_sels lw_privs ++ tables_1
theorem lw_privs_ok : ∀ q ∈ lw_privs, lw_okq q := by
  show ∀ q ∈ lw_privs_1 ++ (lw_privs_2), lw_okq q
  exact List.forall_mem_append.mpr ⟨lw_r1, lw_r2⟩
end
section
/-! names out of the printed text: classes, fields, methods (no pool, no word lists) -/
def RX0 : String := "TurfHeaps$Clearing"
def TX0 : u_T := fun k => match k with
  | 0 => ("TurfHeaps$Clearing", "cells", "[I", true)
  | 1 => ("TurfHeaps$Clearing", "heats", "[I", true)
  | 2 => ("TurfHeaps$Clearing", "turfs", "[I", true)
  | 3 => ("TurfHeaps$Clearing", "known", "I", false)
  | 4 => ("TurfHeaps$Clearing", "drawn", "I", false)
  | 5 => ("TurfHeaps$Clearing", "watched", "I", false)
  | 6 => ("TurfHeaps$Clearing", "burners", "I", false)
  | _ => ("TurfHeaps$Clearing", "night", "I", false)
def tyX0 : Nat → FieldType := fun k => match k with
  | 0 => .array .int
  | 1 => .array .int
  | 2 => .array .int
  | 3 => .int
  | 4 => .int
  | 5 => .int
  | 6 => .int
  | _ => .int
abbrev wsX00 : List Cond := u_ws RX0 TX0 8
theorem nmX0 : ∀ a, a < 8 → ∀ b, b < 8 → a ≠ b → (TX0 a).2.1 ≠ (TX0 b).2.1 := by decide +kernel
theorem tyX0_ok : ∀ k, k < 8 → parseFieldDescriptor (TX0 k).2.2.1 = some (tyX0 k) := by decide +kernel
abbrev cX0_init : ByteArray := prog_2_method_1_code
def yX0_init : MethodName := ⟨RX0, "<init>", "()V"⟩
abbrev cX0_copyFrom : ByteArray := prog_2_method_2_code
def yX0_copyFrom : MethodName := ⟨RX0, "copyFrom", "(LTurfHeaps$Clearing;)V"⟩
abbrev cX0_put : ByteArray := prog_2_method_3_code
def yX0_put : MethodName := ⟨RX0, "put", "(IIII)V"⟩
abbrev cX0_isAlight : ByteArray := prog_2_method_4_code
def yX0_isAlight : MethodName := ⟨RX0, "isAlight", "(I)Z"⟩
abbrev cX0_isTakenByAnother : ByteArray := prog_2_method_5_code
def yX0_isTakenByAnother : MethodName := ⟨RX0, "isTakenByAnother", "(II)Z"⟩
abbrev cX0_heatOfAll : ByteArray := prog_2_method_6_code
def yX0_heatOfAll : MethodName := ⟨RX0, "heatOfAll", "()I"⟩
abbrev cX0_areNear : ByteArray := prog_2_method_7_code
def yX0_areNear : MethodName := ⟨RX0, "areNear", "(II)Z"⟩
abbrev cX0_countNear : ByteArray := prog_2_method_8_code
def yX0_countNear : MethodName := ⟨RX0, "countNear", "(II)I"⟩
abbrev cX0_flaringBy : ByteArray := prog_2_method_9_code
def yX0_flaringBy : MethodName := ⟨RX0, "flaringBy", "(II)I"⟩
abbrev cX0_canCatch : ByteArray := prog_2_method_10_code
def yX0_canCatch : MethodName := ⟨RX0, "canCatch", "(II)Z"⟩
abbrev cX0_reasonAgainst : ByteArray := prog_2_method_11_code
def yX0_reasonAgainst : MethodName := ⟨RX0, "reasonAgainst", "(III)I"⟩
abbrev cX0_perform : ByteArray := prog_2_method_12_code
def yX0_perform : MethodName := ⟨RX0, "perform", "(III)I"⟩
abbrev cX0_passNight : ByteArray := prog_2_method_13_code
def yX0_passNight : MethodName := ⟨RX0, "passNight", "()I"⟩
abbrev cX0_smoulder : ByteArray := prog_2_method_14_code
def yX0_smoulder : MethodName := ⟨RX0, "smoulder", "(I)Z"⟩
def RX1 : String := "TurfHeaps$DueRows"
def TX1 : u_T := fun k => match k with
  | 0 => ("TurfHeaps$DueRows", "nights", "[I", true)
  | _ => ("TurfHeaps$DueRows", "days", "[I", true)
def tyX1 : Nat → FieldType := fun k => match k with
  | 0 => .array .int
  | _ => .array .int
abbrev wsX10 : List Cond := u_ws RX1 TX1 2
theorem nmX1 : ∀ a, a < 2 → ∀ b, b < 2 → a ≠ b → (TX1 a).2.1 ≠ (TX1 b).2.1 := by decide +kernel
theorem tyX1_ok : ∀ k, k < 2 → parseFieldDescriptor (TX1 k).2.2.1 = some (tyX1 k) := by decide +kernel
abbrev cX1_init : ByteArray := prog_3_method_1_code
def yX1_init : MethodName := ⟨RX1, "<init>", "()V"⟩
abbrev cX1_readNights : ByteArray := prog_3_method_2_code
def yX1_readNights : MethodName := ⟨RX1, "readNights", "(II)Z"⟩
abbrev cX1_readDays : ByteArray := prog_3_method_3_code
def yX1_readDays : MethodName := ⟨RX1, "readDays", "(JI)Z"⟩
abbrev cX1_mostInTime : ByteArray := prog_3_method_4_code
def yX1_mostInTime : MethodName := ⟨RX1, "mostInTime", "(I)I"⟩
abbrev cX1_areInTime : ByteArray := prog_3_method_5_code
def yX1_areInTime : MethodName := ⟨RX1, "areInTime", "(II)Z"⟩
abbrev cX1_nightsUntil : ByteArray := prog_3_method_6_code
def yX1_nightsUntil : MethodName := ⟨RX1, "nightsUntil", "(III)I"⟩
def RX2 : String := "TurfHeaps$Image"
def TX2 : u_T := fun k => match k with
  | 0 => ("TurfHeaps$Image", "clearing", "LTurfHeaps$Clearing;", true)
  | 1 => ("TurfHeaps$Image", "sights", "LTurfHeaps$Sights;", true)
  | _ => ("TurfHeaps$Image", "isKept", "Z", false)
def tyX2 : Nat → FieldType := fun k => match k with
  | 0 => .object "TurfHeaps$Clearing"
  | 1 => .object "TurfHeaps$Sights"
  | _ => .boolean
abbrev wsX20 : List Cond := u_ws RX2 TX2 3
theorem nmX2 : ∀ a, a < 3 → ∀ b, b < 3 → a ≠ b → (TX2 a).2.1 ≠ (TX2 b).2.1 := by decide +kernel
theorem tyX2_ok : ∀ k, k < 3 → parseFieldDescriptor (TX2 k).2.2.1 = some (tyX2 k) := by decide +kernel
abbrev cX2_init : ByteArray := prog_4_method_1_code
def yX2_init : MethodName := ⟨RX2, "<init>", "()V"⟩
def RX3 : String := "TurfHeaps$Pad"
def TX3 : u_T := fun k => match k with
  | 0 => ("TurfHeaps$Pad", "signs", "[I", true)
  | _ => ("TurfHeaps$Pad", "count", "I", false)
def tyX3 : Nat → FieldType := fun k => match k with
  | 0 => .array .int
  | _ => .int
abbrev wsX30 : List Cond := u_ws RX3 TX3 2
theorem nmX3 : ∀ a, a < 2 → ∀ b, b < 2 → a ≠ b → (TX3 a).2.1 ≠ (TX3 b).2.1 := by decide +kernel
theorem tyX3_ok : ∀ k, k < 2 → parseFieldDescriptor (TX3 k).2.2.1 = some (tyX3 k) := by decide +kernel
abbrev cX3_init : ByteArray := prog_5_method_1_code
def yX3_init : MethodName := ⟨RX3, "<init>", "()V"⟩
abbrev cX3_append : ByteArray := prog_5_method_2_code
def yX3_append : MethodName := ⟨RX3, "append", "(I)Z"⟩
abbrev cX3_faultPlace : ByteArray := prog_5_method_3_code
def yX3_faultPlace : MethodName := ⟨RX3, "faultPlace", "()I"⟩
abbrev cX3_isHeapLetter : ByteArray := prog_5_method_4_code
def yX3_isHeapLetter : MethodName := ⟨RX3, "isHeapLetter", "(I)Z"⟩
abbrev cX3_isCellLetter : ByteArray := prog_5_method_5_code
def yX3_isCellLetter : MethodName := ⟨RX3, "isCellLetter", "(I)Z"⟩
abbrev cX3_isDeed : ByteArray := prog_5_method_6_code
def yX3_isDeed : MethodName := ⟨RX3, "isDeed", "(I)Z"⟩
abbrev cX3_kindOf : ByteArray := prog_5_method_7_code
def yX3_kindOf : MethodName := ⟨RX3, "kindOf", "(I)I"⟩
def RX4 : String := "TurfHeaps$Sights"
def TX4 : u_T := fun k => match k with
  | 0 => ("TurfHeaps$Sights", "nights", "[I", true)
  | 1 => ("TurfHeaps$Sights", "colours", "[I", true)
  | _ => ("TurfHeaps$Sights", "count", "I", false)
def tyX4 : Nat → FieldType := fun k => match k with
  | 0 => .array .int
  | 1 => .array .int
  | _ => .int
abbrev wsX40 : List Cond := u_ws RX4 TX4 3
theorem nmX4 : ∀ a, a < 3 → ∀ b, b < 3 → a ≠ b → (TX4 a).2.1 ≠ (TX4 b).2.1 := by decide +kernel
theorem tyX4_ok : ∀ k, k < 3 → parseFieldDescriptor (TX4 k).2.2.1 = some (tyX4 k) := by decide +kernel
abbrev cX4_init : ByteArray := prog_6_method_1_code
def yX4_init : MethodName := ⟨RX4, "<init>", "()V"⟩
abbrev cX4_copyFrom : ByteArray := prog_6_method_2_code
def yX4_copyFrom : MethodName := ⟨RX4, "copyFrom", "(LTurfHeaps$Sights;)V"⟩
abbrev cX4_append : ByteArray := prog_6_method_3_code
def yX4_append : MethodName := ⟨RX4, "append", "(II)Z"⟩
abbrev cX4_fit : ByteArray := prog_6_method_4_code
def yX4_fit : MethodName := ⟨RX4, "fit", "(II)Z"⟩
abbrev cX4_listFitting : ByteArray := prog_6_method_5_code
def yX4_listFitting : MethodName := ⟨RX4, "listFitting", "([I)I"⟩
def RX5 : String := "TurfHeaps$Week"
def TX5 : u_T := fun k => match k with
  | 0 => ("TurfHeaps$Week", "trial", "LTurfHeaps$Clearing;", true)
  | 1 => ("TurfHeaps$Week", "acts", "I", false)
  | 2 => ("TurfHeaps$Week", "stoppedAct", "I", false)
  | 3 => ("TurfHeaps$Week", "stoppedWhy", "I", false)
  | 4 => ("TurfHeaps$Week", "flares", "I", false)
  | 5 => ("TurfHeaps$Week", "firstFlareAct", "I", false)
  | _ => ("TurfHeaps$Week", "firstFlareHeap", "I", false)
def tyX5 : Nat → FieldType := fun k => match k with
  | 0 => .object "TurfHeaps$Clearing"
  | 1 => .int
  | 2 => .int
  | 3 => .int
  | 4 => .int
  | 5 => .int
  | _ => .int
abbrev wsX50 : List Cond := u_ws RX5 TX5 7
theorem nmX5 : ∀ a, a < 7 → ∀ b, b < 7 → a ≠ b → (TX5 a).2.1 ≠ (TX5 b).2.1 := by decide +kernel
theorem tyX5_ok : ∀ k, k < 7 → parseFieldDescriptor (TX5 k).2.2.1 = some (tyX5 k) := by decide +kernel
abbrev cX5_init : ByteArray := prog_7_method_1_code
def yX5_init : MethodName := ⟨RX5, "<init>", "()V"⟩
abbrev cX5_tryOut : ByteArray := prog_7_method_2_code
def yX5_tryOut : MethodName := ⟨RX5, "tryOut", "(LTurfHeaps$Pad;LTurfHeaps$Clearing;)Z"⟩
abbrev cX5_begin : ByteArray := prog_7_method_3_code
def yX5_begin : MethodName := ⟨RX5, "begin", "(LTurfHeaps$Clearing;)V"⟩
abbrev cX5_noteFlares : ByteArray := prog_7_method_4_code
def yX5_noteFlares : MethodName := ⟨RX5, "noteFlares", "(I)V"⟩
def RX6 : String := "TurfHeaps"
def TX6 : u_T := fun k => match k with
  | 0 => ("TurfHeaps", "now", "LTurfHeaps$Clearing;", true)
  | 1 => ("TurfHeaps", "pad", "LTurfHeaps$Pad;", true)
  | 2 => ("TurfHeaps", "sights", "LTurfHeaps$Sights;", true)
  | 3 => ("TurfHeaps", "image0", "LTurfHeaps$Image;", true)
  | 4 => ("TurfHeaps", "image1", "LTurfHeaps$Image;", true)
  | 5 => ("TurfHeaps", "week", "LTurfHeaps$Week;", true)
  | 6 => ("TurfHeaps", "dueRows", "LTurfHeaps$DueRows;", true)
  | 7 => ("TurfHeaps", "fitting", "[I", true)
  | 8 => ("TurfHeaps", "rowValues", "[I", true)
  | _ => ("TurfHeaps", "rowValuesKnown", "I", false)
def tyX6 : Nat → FieldType := fun k => match k with
  | 0 => .object "TurfHeaps$Clearing"
  | 1 => .object "TurfHeaps$Pad"
  | 2 => .object "TurfHeaps$Sights"
  | 3 => .object "TurfHeaps$Image"
  | 4 => .object "TurfHeaps$Image"
  | 5 => .object "TurfHeaps$Week"
  | 6 => .object "TurfHeaps$DueRows"
  | 7 => .array .int
  | 8 => .array .int
  | _ => .int
abbrev wsX60 : List Cond := u_ws RX6 TX6 10
theorem nmX6 : ∀ a, a < 10 → ∀ b, b < 10 → a ≠ b → (TX6 a).2.1 ≠ (TX6 b).2.1 := by decide +kernel
theorem tyX6_ok : ∀ k, k < 10 → parseFieldDescriptor (TX6 k).2.2.1 = some (tyX6 k) := by decide +kernel
abbrev cX6_init : ByteArray := prog_1_method_1_code
def yX6_init : MethodName := ⟨RX6, "<init>", "()V"⟩
abbrev cX6_heap : ByteArray := prog_1_method_2_code
def yX6_heap : MethodName := ⟨RX6, "heap", "(IIII)I"⟩
abbrev cX6_burners : ByteArray := prog_1_method_3_code
def yX6_burners : MethodName := ⟨RX6, "burners", "(I)I"⟩
abbrev cX6_say : ByteArray := prog_1_method_4_code
def yX6_say : MethodName := ⟨RX6, "say", "(I)I"⟩
abbrev cX6_wipe : ByteArray := prog_1_method_5_code
def yX6_wipe : MethodName := ⟨RX6, "wipe", "()I"⟩
abbrev cX6_fault : ByteArray := prog_1_method_6_code
def yX6_fault : MethodName := ⟨RX6, "fault", "()I"⟩
abbrev cX6_judge : ByteArray := prog_1_method_7_code
def yX6_judge : MethodName := ⟨RX6, "judge", "(I)I"⟩
abbrev cX6_done : ByteArray := prog_1_method_8_code
def yX6_done : MethodName := ⟨RX6, "done", "()I"⟩
abbrev cX6_behind : ByteArray := prog_1_method_9_code
def yX6_behind : MethodName := ⟨RX6, "behind", "(II)I"⟩
abbrev cX6_then : ByteArray := prog_1_method_10_code
def yX6_then : MethodName := ⟨RX6, "then", "(I)I"⟩
abbrev cX6_chain : ByteArray := prog_1_method_11_code
def yX6_chain : MethodName := ⟨RX6, "chain", "(I)I"⟩
abbrev cX6_cover : ByteArray := prog_1_method_12_code
def yX6_cover : MethodName := ⟨RX6, "cover", "(III)I"⟩
abbrev cX6_fewestCovered : ByteArray := prog_1_method_13_code
def yX6_fewestCovered : MethodName := ⟨RX6, "fewestCovered", "(II)I"⟩
abbrev cX6_due : ByteArray := prog_1_method_14_code
def yX6_due : MethodName := ⟨RX6, "due", "(IJII)I"⟩
abbrev cX6_nods : ByteArray := prog_1_method_15_code
def yX6_nods : MethodName := ⟨RX6, "nods", "(IIIIII)I"⟩
abbrev cX6_nightsAsleep : ByteArray := prog_1_method_16_code
def yX6_nightsAsleep : MethodName := ⟨RX6, "nightsAsleep", "(IIIII)I"⟩
abbrev cX6_firstNightAsleep : ByteArray := prog_1_method_17_code
def yX6_firstNightAsleep : MethodName := ⟨RX6, "firstNightAsleep", "(IIIII)I"⟩
abbrev cX6_isAsleep : ByteArray := prog_1_method_18_code
def yX6_isAsleep : MethodName := ⟨RX6, "isAsleep", "(III)Z"⟩
abbrev cX6_seen : ByteArray := prog_1_method_19_code
def yX6_seen : MethodName := ⟨RX6, "seen", "(II)I"⟩
abbrev cX6_forget : ByteArray := prog_1_method_20_code
def yX6_forget : MethodName := ⟨RX6, "forget", "()I"⟩
abbrev cX6_matter : ByteArray := prog_1_method_21_code
def yX6_matter : MethodName := ⟨RX6, "matter", "(I)I"⟩
abbrev cX6_ask : ByteArray := prog_1_method_22_code
def yX6_ask : MethodName := ⟨RX6, "ask", "(I)I"⟩
abbrev cX6_mostLeft : ByteArray := prog_1_method_23_code
def yX6_mostLeft : MethodName := ⟨RX6, "mostLeft", "(II)I"⟩
abbrev cX6_countLeft : ByteArray := prog_1_method_24_code
def yX6_countLeft : MethodName := ⟨RX6, "countLeft", "(III)I"⟩
abbrev cX6_colourOf : ByteArray := prog_1_method_25_code
def yX6_colourOf : MethodName := ⟨RX6, "colourOf", "(III)I"⟩
abbrev cX6_takes : ByteArray := prog_1_method_26_code
def yX6_takes : MethodName := ⟨RX6, "takes", "(II)I"⟩
abbrev cX6_winningTake : ByteArray := prog_1_method_27_code
def yX6_winningTake : MethodName := ⟨RX6, "winningTake", "(I)I"⟩
abbrev cX6_learnRowValues : ByteArray := prog_1_method_28_code
def yX6_learnRowValues : MethodName := ⟨RX6, "learnRowValues", "(I)V"⟩
abbrev cX6_leastNotReached : ByteArray := prog_1_method_29_code
def yX6_leastNotReached : MethodName := ⟨RX6, "leastNotReached", "(I)I"⟩
abbrev cX6_lean : ByteArray := prog_1_method_30_code
def yX6_lean : MethodName := ⟨RX6, "lean", "(IIII)J"⟩
abbrev cX6_inLowestTerms : ByteArray := prog_1_method_31_code
def yX6_inLowestTerms : MethodName := ⟨RX6, "inLowestTerms", "(JJI)J"⟩
abbrev cX6_greatestDivisor : ByteArray := prog_1_method_32_code
def yX6_greatestDivisor : MethodName := ⟨RX6, "greatestDivisor", "(JJ)J"⟩
abbrev cX6_year : ByteArray := prog_1_method_33_code
def yX6_year : MethodName := ⟨RX6, "year", "(III)I"⟩
abbrev cX6_image : ByteArray := prog_1_method_34_code
def yX6_image : MethodName := ⟨RX6, "image", "(I)I"⟩
abbrev cX6_restore : ByteArray := prog_1_method_35_code
def yX6_restore : MethodName := ⟨RX6, "restore", "(I)I"⟩
abbrev cX6_told : ByteArray := prog_1_method_36_code
def yX6_told : MethodName := ⟨RX6, "told", "(I)I"⟩
abbrev cX6_toldOfHeap : ByteArray := prog_1_method_37_code
def yX6_toldOfHeap : MethodName := ⟨RX6, "toldOfHeap", "(II)I"⟩
abbrev cX6_isIn : ByteArray := prog_1_method_38_code
def yX6_isIn : MethodName := ⟨RX6, "isIn", "(JJJ)Z"⟩
abbrev cX6_isHeap : ByteArray := prog_1_method_39_code
def yX6_isHeap : MethodName := ⟨RX6, "isHeap", "(I)Z"⟩
abbrev cX6_hasBit : ByteArray := prog_1_method_40_code
def yX6_hasBit : MethodName := ⟨RX6, "hasBit", "(II)Z"⟩
def RX7 : String := "TurfHeapsModel"
def TX7 : u_T := fun k => match k with
  | 0 => ("TurfHeapsModel", "book", "[I", true)
  | 1 => ("TurfHeapsModel", "now", "[I", true)
  | 2 => ("TurfHeapsModel", "burners", "I", false)
  | 3 => ("TurfHeapsModel", "sights", "I", false)
  | 4 => ("TurfHeapsModel", "sight", "[I", true)
  | 5 => ("TurfHeapsModel", "signs", "I", false)
  | 6 => ("TurfHeapsModel", "pad", "[I", true)
  | 7 => ("TurfHeapsModel", "flared", "I", false)
  | 8 => ("TurfHeapsModel", "flaredAt", "I", false)
  | 9 => ("TurfHeapsModel", "flaredWhich", "I", false)
  | 10 => ("TurfHeapsModel", "fresh", "I", false)
  | 11 => ("TurfHeapsModel", "reason", "I", false)
  | 12 => ("TurfHeapsModel", "acts", "I", false)
  | 13 => ("TurfHeapsModel", "takes", "[I", true)
  | 14 => ("TurfHeapsModel", "dues", "[I", true)
  | 15 => ("TurfHeapsModel", "counts", "[I", true)
  | 16 => ("TurfHeapsModel", "worth", "[I", true)
  | 17 => ("TurfHeapsModel", "comes", "[Z", true)
  | 18 => ("TurfHeapsModel", "image", "[I", true)
  | _ => ("TurfHeapsModel", "isKept", "[Z", true)
def tyX7 : Nat → FieldType := fun k => match k with
  | 0 => .array .int
  | 1 => .array .int
  | 2 => .int
  | 3 => .int
  | 4 => .array .int
  | 5 => .int
  | 6 => .array .int
  | 7 => .int
  | 8 => .int
  | 9 => .int
  | 10 => .int
  | 11 => .int
  | 12 => .int
  | 13 => .array .int
  | 14 => .array .int
  | 15 => .array .int
  | 16 => .array .int
  | 17 => .array .boolean
  | 18 => .array .int
  | _ => .array .boolean
abbrev wsX70 : List Cond := u_ws RX7 TX7 20
theorem nmX7 : ∀ a, a < 20 → ∀ b, b < 20 → a ≠ b → (TX7 a).2.1 ≠ (TX7 b).2.1 := by decide +kernel
theorem tyX7_ok : ∀ k, k < 20 → parseFieldDescriptor (TX7 k).2.2.1 = some (tyX7 k) := by decide +kernel
abbrev cX7_init : ByteArray := prog_9_method_1_code
def yX7_init : MethodName := ⟨RX7, "<init>", "()V"⟩
abbrev cX7_in : ByteArray := prog_9_method_2_code
def yX7_in : MethodName := ⟨RX7, "in", "(III)Z"⟩
abbrev cX7_has : ByteArray := prog_9_method_3_code
def yX7_has : MethodName := ⟨RX7, "has", "(II)Z"⟩
abbrev cX7_bits : ByteArray := prog_9_method_4_code
def yX7_bits : MethodName := ⟨RX7, "bits", "(I)I"⟩
abbrev cX7_isHeap : ByteArray := prog_9_method_5_code
def yX7_isHeap : MethodName := ⟨RX7, "isHeap", "(I)Z"⟩
abbrev cX7_heap : ByteArray := prog_9_method_6_code
def yX7_heap : MethodName := ⟨RX7, "heap", "(IIII)I"⟩
abbrev cX7_burners : ByteArray := prog_9_method_7_code
def yX7_burners : MethodName := ⟨RX7, "burners", "(I)I"⟩
abbrev cX7_say : ByteArray := prog_9_method_8_code
def yX7_say : MethodName := ⟨RX7, "say", "(I)I"⟩
abbrev cX7_wipe : ByteArray := prog_9_method_9_code
def yX7_wipe : MethodName := ⟨RX7, "wipe", "()I"⟩
abbrev cX7_faultOf : ByteArray := prog_9_method_10_code
def yX7_faultOf : MethodName := ⟨RX7, "faultOf", "()I"⟩
abbrev cX7_fault : ByteArray := prog_9_method_11_code
def yX7_fault : MethodName := ⟨RX7, "fault", "()I"⟩
abbrev cX7_asNow : ByteArray := prog_9_method_12_code
def yX7_asNow : MethodName := ⟨RX7, "asNow", "()V"⟩
abbrev cX7_off : ByteArray := prog_9_method_13_code
def yX7_off : MethodName := ⟨RX7, "off", "(II)I"⟩
abbrev cX7_areNear : ByteArray := prog_9_method_14_code
def yX7_areNear : MethodName := ⟨RX7, "areNear", "(II)Z"⟩
abbrev cX7_stack : ByteArray := prog_9_method_15_code
def yX7_stack : MethodName := ⟨RX7, "stack", "(II)I"⟩
abbrev cX7_turf : ByteArray := prog_9_method_16_code
def yX7_turf : MethodName := ⟨RX7, "turf", "(II)I"⟩
abbrev cX7_kindle : ByteArray := prog_9_method_17_code
def yX7_kindle : MethodName := ⟨RX7, "kindle", "(I)I"⟩
abbrev cX7_watch : ByteArray := prog_9_method_18_code
def yX7_watch : MethodName := ⟨RX7, "watch", "(I)I"⟩
abbrev cX7_burn : ByteArray := prog_9_method_19_code
def yX7_burn : MethodName := ⟨RX7, "burn", "()I"⟩
abbrev cX7_endNight : ByteArray := prog_9_method_20_code
def yX7_endNight : MethodName := ⟨RX7, "endNight", "()I"⟩
abbrev cX7_goWeeks : ByteArray := prog_9_method_21_code
def yX7_goWeeks : MethodName := ⟨RX7, "goWeeks", "()I"⟩
abbrev cX7_judge : ByteArray := prog_9_method_22_code
def yX7_judge : MethodName := ⟨RX7, "judge", "(I)I"⟩
abbrev cX7_barOfWeeks : ByteArray := prog_9_method_23_code
def yX7_barOfWeeks : MethodName := ⟨RX7, "barOfWeeks", "()I"⟩
abbrev cX7_done : ByteArray := prog_9_method_24_code
def yX7_done : MethodName := ⟨RX7, "done", "()I"⟩
abbrev cX7_behind : ByteArray := prog_9_method_25_code
def yX7_behind : MethodName := ⟨RX7, "behind", "(II)I"⟩
abbrev cX7_then : ByteArray := prog_9_method_26_code
def yX7_then : MethodName := ⟨RX7, "then", "(I)I"⟩
abbrev cX7_chainOf : ByteArray := prog_9_method_27_code
def yX7_chainOf : MethodName := ⟨RX7, "chainOf", "(II)I"⟩
abbrev cX7_chain : ByteArray := prog_9_method_28_code
def yX7_chain : MethodName := ⟨RX7, "chain", "(I)I"⟩
abbrev cX7_cover : ByteArray := prog_9_method_29_code
def yX7_cover : MethodName := ⟨RX7, "cover", "(III)I"⟩
abbrev cX7_canBeDrawn : ByteArray := prog_9_method_30_code
def yX7_canBeDrawn : MethodName := ⟨RX7, "canBeDrawn", "(II)Z"⟩
abbrev cX7_due : ByteArray := prog_9_method_31_code
def yX7_due : MethodName := ⟨RX7, "due", "(IJII)I"⟩
abbrev cX7_nods : ByteArray := prog_9_method_32_code
def yX7_nods : MethodName := ⟨RX7, "nods", "(IIIIII)I"⟩
abbrev cX7_seen : ByteArray := prog_9_method_33_code
def yX7_seen : MethodName := ⟨RX7, "seen", "(II)I"⟩
abbrev cX7_forget : ByteArray := prog_9_method_34_code
def yX7_forget : MethodName := ⟨RX7, "forget", "()I"⟩
abbrev cX7_colour : ByteArray := prog_9_method_35_code
def yX7_colour : MethodName := ⟨RX7, "colour", "(II)I"⟩
abbrev cX7_isFit : ByteArray := prog_9_method_36_code
def yX7_isFit : MethodName := ⟨RX7, "isFit", "(I)Z"⟩
abbrev cX7_matter : ByteArray := prog_9_method_37_code
def yX7_matter : MethodName := ⟨RX7, "matter", "(I)I"⟩
abbrev cX7_ask : ByteArray := prog_9_method_38_code
def yX7_ask : MethodName := ⟨RX7, "ask", "(I)I"⟩
abbrev cX7_layWorth : ByteArray := prog_9_method_39_code
def yX7_layWorth : MethodName := ⟨RX7, "layWorth", "(I)V"⟩
abbrev cX7_takes : ByteArray := prog_9_method_40_code
def yX7_takes : MethodName := ⟨RX7, "takes", "(II)I"⟩
abbrev cX7_lowest : ByteArray := prog_9_method_41_code
def yX7_lowest : MethodName := ⟨RX7, "lowest", "(JJI)J"⟩
abbrev cX7_lean : ByteArray := prog_9_method_42_code
def yX7_lean : MethodName := ⟨RX7, "lean", "(IIII)J"⟩
abbrev cX7_year : ByteArray := prog_9_method_43_code
def yX7_year : MethodName := ⟨RX7, "year", "(III)I"⟩
abbrev cX7_image : ByteArray := prog_9_method_44_code
def yX7_image : MethodName := ⟨RX7, "image", "(I)I"⟩
abbrev cX7_restore : ByteArray := prog_9_method_45_code
def yX7_restore : MethodName := ⟨RX7, "restore", "(I)I"⟩
abbrev cX7_told : ByteArray := prog_9_method_46_code
def yX7_told : MethodName := ⟨RX7, "told", "(I)I"⟩
def RJ6 : String := "java/lang/Integer"
def TJ6 : u_T := fun k => match k with
  | _ => ("", "", "", false)
def tyJ6 : Nat → FieldType := fun k => match k with
  | _ => .int
abbrev wsJ60 : List Cond := u_ws RJ6 TJ6 0
theorem nmJ6 : ∀ a, a < 0 → ∀ b, b < 0 → a ≠ b → (TJ6 a).2.1 ≠ (TJ6 b).2.1 := by decide +kernel
theorem tyJ6_ok : ∀ k, k < 0 → parseFieldDescriptor (TJ6 k).2.2.1 = some (tyJ6 k) := by decide +kernel
abbrev cJ6_bitCount_0f7a4 : ByteArray := prog_10_method_49_code
def yJ6_bitCount_0f7a4 : MethodName := ⟨RJ6, "bitCount", "(I)I"⟩
def RJ9 : String := "java/lang/Math"
def TJ9 : u_T := fun k => match k with
  | _ => ("", "", "", false)
def tyJ9 : Nat → FieldType := fun k => match k with
  | _ => .int
abbrev wsJ90 : List Cond := u_ws RJ9 TJ9 0
theorem nmJ9 : ∀ a, a < 0 → ∀ b, b < 0 → a ≠ b → (TJ9 a).2.1 ≠ (TJ9 b).2.1 := by decide +kernel
theorem tyJ9_ok : ∀ k, k < 0 → parseFieldDescriptor (TJ9 k).2.2.1 = some (tyJ9 k) := by decide +kernel
abbrev cJ9_floorMod_7cf53 : ByteArray := prog_11_method_50_code
def yJ9_floorMod_7cf53 : MethodName := ⟨RJ9, "floorMod", "(II)I"⟩
abbrev cJ9_abs_0f7a4 : ByteArray := prog_11_method_59_code
def yJ9_abs_0f7a4 : MethodName := ⟨RJ9, "abs", "(I)I"⟩
abbrev cJ9_max_7cf53 : ByteArray := prog_11_method_65_code
def yJ9_max_7cf53 : MethodName := ⟨RJ9, "max", "(II)I"⟩
abbrev cJ9_min_7cf53 : ByteArray := prog_11_method_69_code
def yJ9_min_7cf53 : MethodName := ⟨RJ9, "min", "(II)I"⟩
def RL : String := "TurfHeapsLaw"
abbrev cL_law : ByteArray := code
def yL_law : MethodName := ⟨RL, "law", "([I)Z"⟩
abbrev vwCl : List vw_C := [(RX0, TX0, 8), (RX1, TX1, 2), (RX2, TX2, 3), (RX3, TX3, 2), (RX4, TX4, 3), (RX5, TX5, 7), (RX6, TX6, 10), (RX7, TX7, 20)]
end
section
/-! abstract cells, abstract heaps: the world's 48 cells bear the numbers 0 .. 49 without 34 and 36; 50 is the script -/
abbrev AC : Type := (Bool × Nat × (Nat → Int32)) ⊕ (Nat × List Value)
abbrev HP : Type := Nat → AC
abbrev MY : Type := String × ByteArray × Nat × Option FieldType × Option (Nat × (Nat → Int32))
def cv (ad : Nat → Nat) : Value → Value
  | .ref k => .ref (ad k)
  | .int x => .int x
  | .long x => .long x
  | .float x => .float x
  | .double x => .double x
  | .null => .null
  | .retAddr x => .retAddr x
def cE (ad : Nat → Nat) (cI cZ : ClassId) : AC → va_E
  | .inl (z, n, f) => .inl (if z then cZ else cI, n, .inl f)
  | .inr (ci, fs) => .inr (ci, fs.map (cv ad))
def wunp (i : Nat) : Nat := if i < 34 then i else if i < 35 then i + 1 else i + 2
def wpos (k : Nat) : Nat := if k < 34 then k else if k < 36 then k - 1 else k - 2
abbrev LV (k : Nat) : Prop := wpos k < 48 ∧ wunp (wpos k) = k
theorem wpos_unp (i : Nat) : wpos (wunp i) = i := by
  unfold wpos wunp
  by_cases h1 : i < 34
  · rw [if_pos h1, if_pos h1]
  · rw [if_neg h1]
    by_cases h2 : i < 35
    · rw [if_pos h2, if_neg (by omega), if_pos (by omega)]; omega
    · rw [if_neg h2, if_neg (by omega), if_neg (by omega)]; omega
theorem wunp_ne {i k : Nat} (h : ¬ i = wpos k) : ¬ wunp i = k := fun e => h (by rw [← e, wpos_unp])
def mkW (ad : Nat → Nat) (cI cZ : ClassId) (hp : HP) : va_W := (List.range 48).map (fun i => (ad (wunp i), cE ad cI cZ (hp (wunp i))))
def hup (hp : HP) (k : Nat) (x : AC) : HP := fun j => if j = k then x else hp j
theorem cv_cat (ad : Nat → Nat) (v : Value) : (cv ad v).category = v.category := by cases v <;> rfl
theorem mkW_at {ad : Nat → Nat} {cI cZ : ClassId} {hp : HP} {i : Nat} (h : i < 48) : (mkW ad cI cZ hp)[i]? = some (ad (wunp i), cE ad cI cZ (hp (wunp i))) := by
  simp [mkW, List.getElem?_map, List.getElem?_range h]
theorem mkW_get {ad : Nat → Nat} {cI cZ : ClassId} {hp : HP} {k : Nat} (h : LV k) : (mkW ad cI cZ hp)[wpos k]? = some (ad k, cE ad cI cZ (hp k)) := by
  rw [mkW_at h.1, h.2]
theorem mkW_inv {ad : Nat → Nat} {cI cZ : ClassId} {hp : HP} {i : Nat} {q : Nat × va_E} (h : (mkW ad cI cZ hp)[i]? = some q) : i < 48 ∧ q = (ad (wunp i), cE ad cI cZ (hp (wunp i))) := by
  have hk : i < 48 := by
    have := (List.getElem?_eq_some_iff.mp h).1
    simpa [mkW] using this
  rw [mkW_at hk] at h
  exact ⟨hk, (Option.some.inj h).symm⟩
theorem mkW_set {ad : Nat → Nat} {cI cZ : ClassId} {hp : HP} {k : Nat} {x : AC} (h : LV k) : (mkW ad cI cZ hp).set (wpos k) (ad k, cE ad cI cZ x) = mkW ad cI cZ (hup hp k x) := by
  apply List.ext_getElem?
  intro i
  by_cases hi : i = wpos k
  · subst hi
    have hl : wpos k < (mkW ad cI cZ hp).length := by simpa [mkW] using h.1
    rw [List.getElem?_set_self hl, mkW_get h]
    simp [hup]
  · rw [List.getElem?_set_ne (Ne.symm hi)]
    by_cases hlt : i < 48
    · rw [mkW_at hlt, mkW_at hlt]
      simp [hup, wunp_ne hi]
    · have h1 : (mkW ad cI cZ hp)[i]? = none := by simp [mkW]; omega
      have h2 : (mkW ad cI cZ (hup hp k x))[i]? = none := by simp [mkW]; omega
      rw [h1, h2]
theorem mkW_D {ad : Nat → Nat} {cI cZ : ClassId} {hp hp' : HP} {A : Nat → Prop} (h : va_D A (mkW ad cI cZ hp)) : va_D A (mkW ad cI cZ hp') := by
  refine ⟨fun i j p q hi hj e => ?_, fun k q hk => ?_⟩
  · obtain ⟨h1, rfl⟩ := mkW_inv hi
    obtain ⟨h2, rfl⟩ := mkW_inv hj
    exact h.1 i j _ _ (mkW_at h1) (mkW_at h2) e
  · obtain ⟨h1, rfl⟩ := mkW_inv hk
    exact h.2 k (ad (wunp k), cE ad cI cZ (hp (wunp k))) (mkW_at h1)
theorem mkW_A {ad : Nat → Nat} {cI cZ : ClassId} {hp hp' : HP} {sz q : Nat} (h : va_A (mkW ad cI cZ hp) sz q) : va_A (mkW ad cI cZ hp') sz q := by
  rcases h with ⟨k, e, h⟩ | h
  · obtain ⟨h1, h2⟩ := mkW_inv h
    refine Or.inl ⟨k, cE ad cI cZ (hp' (wunp k)), ?_⟩
    rw [mkW_at h1]
    cases h2
    rfl
  · exact Or.inr h
/-! the words of the tables that go into every method; the words of nest mates, beside them -/
def gtbl : List Cond := lw_tbl.filter goodWord
def nests : List (String × Nat × MethodName × String) := [(RX3, 30, yX6_isIn, RX6), (RX0, 43, yX6_hasBit, RX6), (RX5, 81, yX6_hasBit, RX6), (RX1, 30, yX6_hasBit, RX6), (RX4, 22, yX6_colourOf, RX6)]
theorem gtbl_in {w : Cond} (i : Nat) (h : lw_tbl[i]? = some w) (hg : goodWord w = true) : w ∈ gtbl := List.mem_filter.mpr ⟨List.mem_of_getElem? h, hg⟩
theorem gtbl_lw {w : Cond} (h : w ∈ gtbl) : w ∈ lw_tbl := (List.mem_filter.mp h).1
theorem gtbl_good {w : Cond} (h : w ∈ gtbl) : (w.onTables && w.keeps) = true ∨ ∃ ty, w = .arrayClass ty := good_of_word (List.mem_filter.mp h).2
/-! locals -/
def alf (ad : Nat → Nat) : Nat → List Value → List (Nat × Value)
  | _, [] => []
  | i, .null :: r => alf ad (i + 1) r
  | i, v :: r => (i, cv ad v) :: alf ad (i + 1) r
theorem alf_cons {ad : Nat → Nat} {i : Nat} {v : Value} {r : List Value} (h : v ≠ .null) : alf ad i (v :: r) = (i, cv ad v) :: alf ad (i + 1) r := by
  cases v <;> first | rfl | exact absurd rfl h
theorem alf_get {ad : Nat → Nat} : ∀ (l : List Value) (i k : Nat) (v : Value), l[k]? = some v → v ≠ .null → (i + k, cv ad v) ∈ alf ad i l
  | [], i, k, v, h, _ => by simp at h
  | a :: r, i, 0, v, h, hv => by
    simp at h
    subst h
    rw [alf_cons hv]
    exact List.mem_cons_self
  | a :: r, i, k + 1, v, h, hv => by
    rw [List.getElem?_cons_succ] at h
    have := alf_get (ad := ad) r (i + 1) k v h hv
    rw [show i + (k + 1) = i + 1 + k by omega]
    by_cases ha : a = .null
    · subst ha
      exact this
    · rw [alf_cons ha]
      exact List.mem_cons_of_mem _ this
theorem alf_mem {ad : Nat → Nat} : ∀ (l : List Value) (i : Nat) (q : Nat × Value), q ∈ alf ad i l → ∃ (k : Nat) (v : Value), l[k]? = some v ∧ v ≠ .null ∧ q = (i + k, cv ad v)
  | [], i, q, h => by simp [alf] at h
  | a :: r, i, q, h => by
    by_cases ha : a = .null
    · subst ha
      obtain ⟨k, v, h1, h2, h3⟩ := alf_mem r (i + 1) q h
      exact ⟨k + 1, v, by rw [List.getElem?_cons_succ]; exact h1, h2, by rw [h3, show i + 1 + k = i + (k + 1) by omega]⟩
    · rw [alf_cons ha] at h
      rcases List.mem_cons.mp h with h | h
      · exact ⟨0, a, rfl, ha, h⟩
      · obtain ⟨k, v, h1, h2, h3⟩ := alf_mem r (i + 1) q h
        exact ⟨k + 1, v, by rw [List.getElem?_cons_succ]; exact h1, h2, by rw [h3, show i + 1 + k = i + (k + 1) by omega]⟩
def lvr (ad : Nat → Nat) (ls : Array Slot) (n : Nat) (l : List Value) : Prop := lv_has ls n (alf ad 0 l)
theorem lvr_at {ad : Nat → Nat} {ls : Array Slot} {n : Nat} {l : List Value} (h : lvr ad ls n l) {k : Nat} {v : Value} (hk : l[k]? = some v) (hv : v ≠ .null) : ls[k]? = some (.val (cv ad v)) := by
  have := h.2.2 _ (alf_get (ad := ad) l 0 k v hk hv)
  simpa using this
def clrV : Value → Value
  | .long _ => .null
  | .double _ => .null
  | v => v
def stI : List Value → Nat → Value → List Value
  | [], _, _ => []
  | _ :: l, 0, v => v :: l
  | a :: l, 1, v => clrV a :: stI l 0 v
  | a :: l, n + 2, v => a :: stI l (n + 1) v
def stL : List Value → Nat → Value → List Value
  | [], _, _ => []
  | [_], 0, v => [v]
  | _ :: _ :: l, 0, v => v :: .null :: l
  | a :: l, 1, v => clrV a :: stL l 0 v
  | a :: l, n + 2, v => a :: stL l (n + 1) v
theorem clrV_eq {a v : Value} (h : clrV a = v) (hv : v ≠ .null) : a = v ∧ ¬ v.category = 2 := by
  cases a <;> first | (subst h; exact ⟨rfl, by simp [clrV, Value.category]⟩) | exact absurd h.symm hv
theorem stI_get : ∀ (l : List Value) (i k : Nat) (x v : Value), (stI l i x)[k]? = some v → v ≠ .null → (k = i ∧ v = x) ∨ (k ≠ i ∧ l[k]? = some v ∧ ¬ (k + 1 = i ∧ v.category = 2))
  | [], i, k, x, v, h, _ => by simp [stI] at h
  | a :: l, 0, 0, x, v, h, hv => by
    simp [stI] at h
    exact Or.inl ⟨rfl, h.symm⟩
  | a :: l, 0, k + 1, x, v, h, hv => by
    refine Or.inr ⟨by omega, ?_, by omega⟩
    simpa [stI] using h
  | a :: l, 1, 0, x, v, h, hv => by
    simp [stI] at h
    obtain ⟨h1, h2⟩ := clrV_eq h hv
    subst h1
    exact Or.inr ⟨by omega, rfl, fun q => h2 q.2⟩
  | a :: l, 1, k + 1, x, v, h, hv => by
    rw [stI, List.getElem?_cons_succ] at h
    rcases stI_get l 0 k x v h hv with ⟨h1, h2⟩ | ⟨h1, h2, h3⟩
    · exact Or.inl ⟨by omega, h2⟩
    · exact Or.inr ⟨by omega, by rw [List.getElem?_cons_succ]; exact h2, by omega⟩
  | a :: l, n + 2, 0, x, v, h, hv => by
    simp [stI] at h
    exact Or.inr ⟨by omega, by simp [h], by omega⟩
  | a :: l, n + 2, k + 1, x, v, h, hv => by
    rw [stI, List.getElem?_cons_succ] at h
    rcases stI_get l (n + 1) k x v h hv with ⟨h1, h2⟩ | ⟨h1, h2, h3⟩
    · exact Or.inl ⟨by omega, h2⟩
    · exact Or.inr ⟨by omega, by rw [List.getElem?_cons_succ]; exact h2, fun q => h3 ⟨by omega, q.2⟩⟩
theorem stL_get : ∀ (l : List Value) (i k : Nat) (x v : Value), (stL l i x)[k]? = some v → v ≠ .null → (k = i ∧ v = x) ∨ (k ≠ i ∧ k ≠ i + 1 ∧ l[k]? = some v ∧ ¬ (k + 1 = i ∧ v.category = 2))
  | [], i, k, x, v, h, _ => by simp [stL] at h
  | [a], 0, 0, x, v, h, hv => by
    simp [stL] at h
    exact Or.inl ⟨rfl, h.symm⟩
  | [a], 0, k + 1, x, v, h, hv => by simp [stL] at h
  | a :: b :: l, 0, 0, x, v, h, hv => by
    simp [stL] at h
    exact Or.inl ⟨rfl, h.symm⟩
  | a :: b :: l, 0, 1, x, v, h, hv => by
    simp [stL] at h
    exact absurd h.symm hv
  | a :: b :: l, 0, k + 2, x, v, h, hv => by
    refine Or.inr ⟨by omega, by omega, ?_, by omega⟩
    simpa [stL] using h
  | [a], 1, 0, x, v, h, hv => by
    simp [stL] at h
    obtain ⟨h1, h2⟩ := clrV_eq h hv
    subst h1
    exact Or.inr ⟨by omega, by omega, rfl, fun q => h2 q.2⟩
  | [a], 1, k + 1, x, v, h, hv => by simp [stL] at h
  | a :: b :: l, 1, 0, x, v, h, hv => by
    rw [stL] at h
    simp at h
    obtain ⟨h1, h2⟩ := clrV_eq h hv
    subst h1
    exact Or.inr ⟨by omega, by omega, rfl, fun q => h2 q.2⟩
  | a :: b :: l, 1, k + 1, x, v, h, hv => by
    rw [stL, List.getElem?_cons_succ] at h
    rcases stL_get (b :: l) 0 k x v h hv with ⟨h1, h2⟩ | ⟨h1, h2, h3, h4⟩
    · exact Or.inl ⟨by omega, h2⟩
    · exact Or.inr ⟨by omega, by omega, by rw [List.getElem?_cons_succ]; exact h3, by omega⟩
  | a :: l, n + 2, 0, x, v, h, hv => by
    have h' : a = v := by cases l <;> simpa [stL] using h
    exact Or.inr ⟨by omega, by omega, by simp [h'], by omega⟩
  | a :: l, n + 2, k + 1, x, v, h, hv => by
    have h' : (stL l (n + 1) x)[k]? = some v := by cases l <;> simpa [stL] using h
    rcases stL_get l (n + 1) k x v h' hv with ⟨h1, h2⟩ | ⟨h1, h2, h3, h4⟩
    · exact Or.inl ⟨by omega, h2⟩
    · exact Or.inr ⟨by omega, by omega, by rw [List.getElem?_cons_succ]; exact h3, fun q => h4 ⟨by omega, q.2⟩⟩
theorem lvr_st1 {ad : Nat → Nat} {ls : Array Slot} {n i : Nat} {l : List Value} {x : Value} (h : lv_has ls n ((i, cv ad x) :: (alf ad 0 l).filter (fun q => !(q.1 == i) && !(q.1 + 1 == i && q.2.category == 2)))) : lvr ad ls n (stI l i x) := by
  refine ⟨h.1, h.2.1, fun q hq => ?_⟩
  obtain ⟨k, v, h1, h2, rfl⟩ := alf_mem _ _ _ hq
  rw [Nat.zero_add]
  rcases stI_get l i k x v h1 h2 with ⟨rfl, rfl⟩ | ⟨h3, h4, h5⟩
  · exact h.2.2 _ List.mem_cons_self
  · refine h.2.2 (k, cv ad v) (List.mem_cons_of_mem _ (List.mem_filter.mpr ⟨?_, ?_⟩))
    · have := alf_get (ad := ad) l 0 k v h4 h2
      simpa using this
    · simp only [Bool.and_eq_true, Bool.not_eq_true', beq_eq_false_iff_ne, Bool.and_eq_false_iff, cv_cat]
      refine ⟨h3, ?_⟩
      by_cases hk : k + 1 = i
      · exact Or.inr (fun q => h5 ⟨hk, q⟩)
      · exact Or.inl hk
theorem lvr_st2 {ad : Nat → Nat} {ls : Array Slot} {n i : Nat} {l : List Value} {x : Value} (h : lv_has ls n ((i, cv ad x) :: (alf ad 0 l).filter (fun q => !(q.1 == i) && (!(q.1 == i + 1) && !(q.1 + 1 == i && q.2.category == 2))))) : lvr ad ls n (stL l i x) := by
  refine ⟨h.1, h.2.1, fun q hq => ?_⟩
  obtain ⟨k, v, h1, h2, rfl⟩ := alf_mem _ _ _ hq
  rw [Nat.zero_add]
  rcases stL_get l i k x v h1 h2 with ⟨rfl, rfl⟩ | ⟨h3, h3', h4, h5⟩
  · exact h.2.2 _ List.mem_cons_self
  · refine h.2.2 (k, cv ad v) (List.mem_cons_of_mem _ (List.mem_filter.mpr ⟨?_, ?_⟩))
    · have := alf_get (ad := ad) l 0 k v h4 h2
      simpa using this
    · simp only [Bool.and_eq_true, Bool.not_eq_true', beq_eq_false_iff_ne, Bool.and_eq_false_iff, cv_cat]
      refine ⟨h3, h3', ?_⟩
      by_cases hk : k + 1 = i
      · exact Or.inr (fun q => h5 ⟨hk, q⟩)
      · exact Or.inl hk
/-- the locals at a method's entry -/
def entL : List Value → List Value
  | [] => []
  | v :: vs => if v.category = 2 then v :: .null :: entL vs else v :: entL vs
def ent (n : Nat) (vs : List Value) : List Value := entL vs ++ List.replicate (n - (entL vs).length) .null

/-! the judgement -/
def CXT (Y : MY) (d : Nat) (p : Program) (R : Room) (s : State) (m : MethodId) (args : Array Value) (meth : Method) (c : Code) (cells slots : Nat) : Prop :=
  p.tables.exec = Jvm.exec ∧ c.code = Y.2.1 ∧ c.maxLocals = Y.2.2.1 ∧ meth.sig.returnType = Y.2.2.2.1 ∧ meth.locks = false ∧ s.vm.findClass Y.1 = some m.cls ∧ (∀ w ∈ gtbl, w.before args s = true) ∧ (∀ q ∈ nests, va_Nw (.methodLinkNest q.1 q.2.1 q.2.2.1 q.2.2.2) s) ∧ d ≤ R.frames ∧ 40 * d ≤ R.locals ∧ cells ≤ R.cells ∧ slots ≤ R.slots
def WLD (Y : MY) (ad : Nat → Nat) (D : va_G) (cI cZ : ClassId) (A : Nat → Prop) (H0 : Heap) (s : State) (hp : HP) (H : Heap) (locs : List Loc) : Prop :=
  va_K D vwCl [(cI, .int), (cZ, .boolean)] s ∧ va_P D vwCl (mkW ad cI cZ hp) H ∧ va_D A (mkW ad cI cZ hp) ∧ va_S A H0 H locs ∧ (∀ q, H0.size ≤ q → A q) ∧ (match Y.2.2.2.2 with
    | none => True
    | some (L, xs) => va_X (ad 50) L xs s H0 ∧ ad 50 < H0.size ∧ ¬ A (ad 50))
/-- how a method may end: the return instruction at pc, with v -/
def RTN (Y : MY) (pc : Nat) (v : Option Value) : Prop :=
  (∃ (x : Int32) (ty : FieldType), v = some (.int x) ∧ decode Y.2.1 pc = .ok (.ireturn, 1) ∧ Y.2.2.2.1 = some ty ∧ narrow ty (.int x) = .int x) ∨ (∃ x : Int64, v = some (.long x) ∧ decode Y.2.1 pc = .ok (.lreturn, 1) ∧ Y.2.2.2.1 = some .long) ∨ (v = none ∧ decode Y.2.1 pc = .ok (.return_, 1) ∧ Y.2.2.2.1 = none)
def E (Y : MY) (d : Nat) (pc : Nat) (l st : List Value) (hp : HP) (Q : Option Value → HP → Prop) : Prop :=
  ∀ (p : Program) (lch : Launch) (e : Env) (R : Room) (s : State) (m : MethodId) (args : Array Value) (below : List Frame) (meth : Method) (c : Code) (H : Heap) (locs : List Loc) (cells slots : Nat) (ad : Nat → Nat) (D : va_G) (cI cZ : ClassId) (A : Nat → Prop) (H0 : Heap) (Qm : State → Prop) (ls : Array Slot), CXT Y d p R s m args meth c cells slots → WLD Y ad D cI cZ A H0 s hp H locs → lvr ad ls Y.2.2.1 l →
    (∀ (v : Option Value) (hp' : HP) (H' : Heap) (locs' : List Loc) (pc' : Nat) (ls' : Array Slot), Q v hp' → WLD Y ad D cI cZ A H0 s hp' H' locs' → RTN Y pc' v → W p lch e R s m args below meth c H' locs' cells slots Qm (F0 m pc' ls' (v.toList.map (cv ad)))) →
    W p lch e R s m args below meth c H locs cells slots Qm (F0 m pc ls (st.map (cv ad)))

theorem E_iconst {Y : MY} {d pc : Nat} {l st : List Value} {hp : HP} {Q : Option Value → HP → Prop} {n : Int} {v : Int32} (hd : decode Y.2.1 pc = .ok (.iconst n, 1)) (hv : Int32.ofInt n = v) (kk : E Y d (pc + 1) l (.int v :: st) hp Q) : E Y d pc l st hp Q := by
  intro p lch e R s m args below meth c H locs cells slots ad D cI cZ A H0 Qm ls hC hW hl hR
  exact lv_iconst hC.1 hC.2.1 hd hv (kk p lch e R s m args below meth c H locs cells slots ad D cI cZ A H0 Qm ls hC hW hl hR)

theorem E_bipush {Y : MY} {d pc : Nat} {l st : List Value} {hp : HP} {Q : Option Value → HP → Prop} {n : Int} {v : Int32} (hd : decode Y.2.1 pc = .ok (.bipush n, 2)) (hv : (Int8.ofInt n).toInt32 = v) (kk : E Y d (pc + 2) l (.int v :: st) hp Q) : E Y d pc l st hp Q := by
  intro p lch e R s m args below meth c H locs cells slots ad D cI cZ A H0 Qm ls hC hW hl hR
  exact lv_bipush hC.1 hC.2.1 hd hv (kk p lch e R s m args below meth c H locs cells slots ad D cI cZ A H0 Qm ls hC hW hl hR)

theorem E_sipush {Y : MY} {d pc : Nat} {l st : List Value} {hp : HP} {Q : Option Value → HP → Prop} {n : Int} {v : Int32} (hd : decode Y.2.1 pc = .ok (.sipush n, 3)) (hv : (Int16.ofInt n).toInt32 = v) (kk : E Y d (pc + 3) l (.int v :: st) hp Q) : E Y d pc l st hp Q := by
  intro p lch e R s m args below meth c H locs cells slots ad D cI cZ A H0 Qm ls hC hW hl hR
  exact lv_sipush hC.1 hC.2.1 hd hv (kk p lch e R s m args below meth c H locs cells slots ad D cI cZ A H0 Qm ls hC hW hl hR)

theorem E_lconst {Y : MY} {d pc : Nat} {l st : List Value} {hp : HP} {Q : Option Value → HP → Prop} {n : Fin 2} {v : Int64} (hd : decode Y.2.1 pc = .ok (.lconst n, 1)) (hv : Int64.ofNat (n : Nat) = v) (kk : E Y d (pc + 1) l (.long v :: st) hp Q) : E Y d pc l st hp Q := by
  intro p lch e R s m args below meth c H locs cells slots ad D cI cZ A H0 Qm ls hC hW hl hR
  exact lv_lconst hC.1 hC.2.1 hd hv (kk p lch e R s m args below meth c H locs cells slots ad D cI cZ A H0 Qm ls hC hW hl hR)

theorem E_iadd {Y : MY} {d pc : Nat} {l st : List Value} {hp : HP} {Q : Option Value → HP → Prop} {x y : Int32} (hd : decode Y.2.1 pc = .ok (.iadd, 1))  (kk : E Y d (pc + 1) l (.int (x + y) :: st) hp Q) : E Y d pc l (.int y :: .int x :: st) hp Q := by
  intro p lch e R s m args below meth c H locs cells slots ad D cI cZ A H0 Qm ls hC hW hl hR
  exact lv_iadd hC.1 hC.2.1 hd  (kk p lch e R s m args below meth c H locs cells slots ad D cI cZ A H0 Qm ls hC hW hl hR)

theorem E_isub {Y : MY} {d pc : Nat} {l st : List Value} {hp : HP} {Q : Option Value → HP → Prop} {x y : Int32} (hd : decode Y.2.1 pc = .ok (.isub, 1))  (kk : E Y d (pc + 1) l (.int (x - y) :: st) hp Q) : E Y d pc l (.int y :: .int x :: st) hp Q := by
  intro p lch e R s m args below meth c H locs cells slots ad D cI cZ A H0 Qm ls hC hW hl hR
  exact lv_isub hC.1 hC.2.1 hd  (kk p lch e R s m args below meth c H locs cells slots ad D cI cZ A H0 Qm ls hC hW hl hR)

theorem E_imul {Y : MY} {d pc : Nat} {l st : List Value} {hp : HP} {Q : Option Value → HP → Prop} {x y : Int32} (hd : decode Y.2.1 pc = .ok (.imul, 1))  (kk : E Y d (pc + 1) l (.int (x * y) :: st) hp Q) : E Y d pc l (.int y :: .int x :: st) hp Q := by
  intro p lch e R s m args below meth c H locs cells slots ad D cI cZ A H0 Qm ls hC hW hl hR
  exact lv_imul hC.1 hC.2.1 hd  (kk p lch e R s m args below meth c H locs cells slots ad D cI cZ A H0 Qm ls hC hW hl hR)

theorem E_iand {Y : MY} {d pc : Nat} {l st : List Value} {hp : HP} {Q : Option Value → HP → Prop} {x y : Int32} (hd : decode Y.2.1 pc = .ok (.iand, 1))  (kk : E Y d (pc + 1) l (.int (x &&& y) :: st) hp Q) : E Y d pc l (.int y :: .int x :: st) hp Q := by
  intro p lch e R s m args below meth c H locs cells slots ad D cI cZ A H0 Qm ls hC hW hl hR
  exact lv_iand hC.1 hC.2.1 hd  (kk p lch e R s m args below meth c H locs cells slots ad D cI cZ A H0 Qm ls hC hW hl hR)

theorem E_ior {Y : MY} {d pc : Nat} {l st : List Value} {hp : HP} {Q : Option Value → HP → Prop} {x y : Int32} (hd : decode Y.2.1 pc = .ok (.ior, 1))  (kk : E Y d (pc + 1) l (.int (x ||| y) :: st) hp Q) : E Y d pc l (.int y :: .int x :: st) hp Q := by
  intro p lch e R s m args below meth c H locs cells slots ad D cI cZ A H0 Qm ls hC hW hl hR
  exact lv_ior hC.1 hC.2.1 hd  (kk p lch e R s m args below meth c H locs cells slots ad D cI cZ A H0 Qm ls hC hW hl hR)

theorem E_ixor {Y : MY} {d pc : Nat} {l st : List Value} {hp : HP} {Q : Option Value → HP → Prop} {x y : Int32} (hd : decode Y.2.1 pc = .ok (.ixor, 1))  (kk : E Y d (pc + 1) l (.int (x ^^^ y) :: st) hp Q) : E Y d pc l (.int y :: .int x :: st) hp Q := by
  intro p lch e R s m args below meth c H locs cells slots ad D cI cZ A H0 Qm ls hC hW hl hR
  exact lv_ixor hC.1 hC.2.1 hd  (kk p lch e R s m args below meth c H locs cells slots ad D cI cZ A H0 Qm ls hC hW hl hR)

theorem E_lmul {Y : MY} {d pc : Nat} {l st : List Value} {hp : HP} {Q : Option Value → HP → Prop} {x y : Int64} (hd : decode Y.2.1 pc = .ok (.lmul, 1))  (kk : E Y d (pc + 1) l (.long (x * y) :: st) hp Q) : E Y d pc l (.long y :: .long x :: st) hp Q := by
  intro p lch e R s m args below meth c H locs cells slots ad D cI cZ A H0 Qm ls hC hW hl hR
  exact lv_lmul hC.1 hC.2.1 hd  (kk p lch e R s m args below meth c H locs cells slots ad D cI cZ A H0 Qm ls hC hW hl hR)

theorem E_land {Y : MY} {d pc : Nat} {l st : List Value} {hp : HP} {Q : Option Value → HP → Prop} {x y : Int64} (hd : decode Y.2.1 pc = .ok (.land, 1))  (kk : E Y d (pc + 1) l (.long (x &&& y) :: st) hp Q) : E Y d pc l (.long y :: .long x :: st) hp Q := by
  intro p lch e R s m args below meth c H locs cells slots ad D cI cZ A H0 Qm ls hC hW hl hR
  exact lv_land hC.1 hC.2.1 hd  (kk p lch e R s m args below meth c H locs cells slots ad D cI cZ A H0 Qm ls hC hW hl hR)

theorem E_lor {Y : MY} {d pc : Nat} {l st : List Value} {hp : HP} {Q : Option Value → HP → Prop} {x y : Int64} (hd : decode Y.2.1 pc = .ok (.lor, 1))  (kk : E Y d (pc + 1) l (.long (x ||| y) :: st) hp Q) : E Y d pc l (.long y :: .long x :: st) hp Q := by
  intro p lch e R s m args below meth c H locs cells slots ad D cI cZ A H0 Qm ls hC hW hl hR
  exact lv_lor hC.1 hC.2.1 hd  (kk p lch e R s m args below meth c H locs cells slots ad D cI cZ A H0 Qm ls hC hW hl hR)

theorem E_ishl {Y : MY} {d pc : Nat} {l st : List Value} {hp : HP} {Q : Option Value → HP → Prop} {x y : Int32} (hd : decode Y.2.1 pc = .ok (.ishl, 1))  (kk : E Y d (pc + 1) l (.int (x <<< (y &&& 31)) :: st) hp Q) : E Y d pc l (.int y :: .int x :: st) hp Q := by
  intro p lch e R s m args below meth c H locs cells slots ad D cI cZ A H0 Qm ls hC hW hl hR
  exact lv_ishl hC.1 hC.2.1 hd  (kk p lch e R s m args below meth c H locs cells slots ad D cI cZ A H0 Qm ls hC hW hl hR)

theorem E_ishr {Y : MY} {d pc : Nat} {l st : List Value} {hp : HP} {Q : Option Value → HP → Prop} {x y : Int32} (hd : decode Y.2.1 pc = .ok (.ishr, 1))  (kk : E Y d (pc + 1) l (.int (x >>> (y &&& 31)) :: st) hp Q) : E Y d pc l (.int y :: .int x :: st) hp Q := by
  intro p lch e R s m args below meth c H locs cells slots ad D cI cZ A H0 Qm ls hC hW hl hR
  exact lv_ishr hC.1 hC.2.1 hd  (kk p lch e R s m args below meth c H locs cells slots ad D cI cZ A H0 Qm ls hC hW hl hR)

theorem E_ineg {Y : MY} {d pc : Nat} {l st : List Value} {hp : HP} {Q : Option Value → HP → Prop} {x : Int32} (hd : decode Y.2.1 pc = .ok (.ineg, 1))  (kk : E Y d (pc + 1) l (.int (-x) :: st) hp Q) : E Y d pc l (.int x :: st) hp Q := by
  intro p lch e R s m args below meth c H locs cells slots ad D cI cZ A H0 Qm ls hC hW hl hR
  exact lv_ineg hC.1 hC.2.1 hd  (kk p lch e R s m args below meth c H locs cells slots ad D cI cZ A H0 Qm ls hC hW hl hR)

theorem E_idiv {Y : MY} {d pc : Nat} {l st : List Value} {hp : HP} {Q : Option Value → HP → Prop} {x y : Int32} (hd : decode Y.2.1 pc = .ok (.idiv, 1)) (hne : ¬ y = 0) (kk : E Y d (pc + 1) l (.int (x / y) :: st) hp Q) : E Y d pc l (.int y :: .int x :: st) hp Q := by
  intro p lch e R s m args below meth c H locs cells slots ad D cI cZ A H0 Qm ls hC hW hl hR
  exact lv_idiv hC.1 hC.2.1 hd hne (kk p lch e R s m args below meth c H locs cells slots ad D cI cZ A H0 Qm ls hC hW hl hR)

def rmI (x y : Int32) : Int32 := x - x / y * y
def rmL (x y : Int64) : Int64 := x - x / y * y

theorem E_irem {Y : MY} {d pc : Nat} {l st : List Value} {hp : HP} {Q : Option Value → HP → Prop} {x y : Int32} (hd : decode Y.2.1 pc = .ok (.irem, 1)) (hne : ¬ y = 0) (kk : E Y d (pc + 1) l (.int (rmI x y) :: st) hp Q) : E Y d pc l (.int y :: .int x :: st) hp Q := by
  intro p lch e R s m args below meth c H locs cells slots ad D cI cZ A H0 Qm ls hC hW hl hR
  exact lv_irem hC.1 hC.2.1 hd hne (kk p lch e R s m args below meth c H locs cells slots ad D cI cZ A H0 Qm ls hC hW hl hR)

theorem E_ldiv {Y : MY} {d pc : Nat} {l st : List Value} {hp : HP} {Q : Option Value → HP → Prop} {x y : Int64} (hd : decode Y.2.1 pc = .ok (.ldiv, 1)) (hne : ¬ y = 0) (kk : E Y d (pc + 1) l (.long (x / y) :: st) hp Q) : E Y d pc l (.long y :: .long x :: st) hp Q := by
  intro p lch e R s m args below meth c H locs cells slots ad D cI cZ A H0 Qm ls hC hW hl hR
  exact lv_ldiv hC.1 hC.2.1 hd hne (kk p lch e R s m args below meth c H locs cells slots ad D cI cZ A H0 Qm ls hC hW hl hR)

theorem E_lrem {Y : MY} {d pc : Nat} {l st : List Value} {hp : HP} {Q : Option Value → HP → Prop} {x y : Int64} (hd : decode Y.2.1 pc = .ok (.lrem, 1)) (hne : ¬ y = 0) (kk : E Y d (pc + 1) l (.long (rmL x y) :: st) hp Q) : E Y d pc l (.long y :: .long x :: st) hp Q := by
  intro p lch e R s m args below meth c H locs cells slots ad D cI cZ A H0 Qm ls hC hW hl hR
  exact lv_lrem hC.1 hC.2.1 hd hne (kk p lch e R s m args below meth c H locs cells slots ad D cI cZ A H0 Qm ls hC hW hl hR)

theorem E_i2l {Y : MY} {d pc : Nat} {l st : List Value} {hp : HP} {Q : Option Value → HP → Prop} {x : Int32} (hd : decode Y.2.1 pc = .ok (.i2l, 1))  (kk : E Y d (pc + 1) l (.long x.toInt64 :: st) hp Q) : E Y d pc l (.int x :: st) hp Q := by
  intro p lch e R s m args below meth c H locs cells slots ad D cI cZ A H0 Qm ls hC hW hl hR
  exact lv_i2l hC.1 hC.2.1 hd rfl (kk p lch e R s m args below meth c H locs cells slots ad D cI cZ A H0 Qm ls hC hW hl hR)

theorem E_l2i {Y : MY} {d pc : Nat} {l st : List Value} {hp : HP} {Q : Option Value → HP → Prop} {x : Int64} (hd : decode Y.2.1 pc = .ok (.l2i, 1))  (kk : E Y d (pc + 1) l (.int x.toInt32 :: st) hp Q) : E Y d pc l (.long x :: st) hp Q := by
  intro p lch e R s m args below meth c H locs cells slots ad D cI cZ A H0 Qm ls hC hW hl hR
  exact lv_l2i hC.1 hC.2.1 hd rfl (kk p lch e R s m args below meth c H locs cells slots ad D cI cZ A H0 Qm ls hC hW hl hR)

theorem E_iushr {Y : MY} {d pc : Nat} {l st : List Value} {hp : HP} {Q : Option Value → HP → Prop} {x y : Int32} (hd : decode Y.2.1 pc = .ok (.iushr, 1))  (kk : E Y d (pc + 1) l (.int (x.toUInt32 >>> (y.toUInt32 &&& Int32.toUInt32 31)).toInt32 :: st) hp Q) : E Y d pc l (.int y :: .int x :: st) hp Q := by
  intro p lch e R s m args below meth c H locs cells slots ad D cI cZ A H0 Qm ls hC hW hl hR
  exact lv_iushr hC.1 hC.2.1 hd rfl (kk p lch e R s m args below meth c H locs cells slots ad D cI cZ A H0 Qm ls hC hW hl hR)

theorem E_lshl {Y : MY} {d pc : Nat} {l st : List Value} {hp : HP} {Q : Option Value → HP → Prop} {x : Int64} {y : Int32} (hd : decode Y.2.1 pc = .ok (.lshl, 1))  (kk : E Y d (pc + 1) l (.long (x <<< (y.toInt64 &&& 63)) :: st) hp Q) : E Y d pc l (.int y :: .long x :: st) hp Q := by
  intro p lch e R s m args below meth c H locs cells slots ad D cI cZ A H0 Qm ls hC hW hl hR
  exact lv_lshl hC.1 hC.2.1 hd rfl (kk p lch e R s m args below meth c H locs cells slots ad D cI cZ A H0 Qm ls hC hW hl hR)

theorem E_lshr {Y : MY} {d pc : Nat} {l st : List Value} {hp : HP} {Q : Option Value → HP → Prop} {x : Int64} {y : Int32} (hd : decode Y.2.1 pc = .ok (.lshr, 1))  (kk : E Y d (pc + 1) l (.long (x >>> (y.toInt64 &&& 63)) :: st) hp Q) : E Y d pc l (.int y :: .long x :: st) hp Q := by
  intro p lch e R s m args below meth c H locs cells slots ad D cI cZ A H0 Qm ls hC hW hl hR
  exact lv_lshr hC.1 hC.2.1 hd rfl (kk p lch e R s m args below meth c H locs cells slots ad D cI cZ A H0 Qm ls hC hW hl hR)

theorem E_lcmp {Y : MY} {d pc : Nat} {l st : List Value} {hp : HP} {Q : Option Value → HP → Prop} {x y : Int64} (hd : decode Y.2.1 pc = .ok (.lcmp, 1))  (kk : E Y d (pc + 1) l (.int (lg_cmp x y) :: st) hp Q) : E Y d pc l (.long y :: .long x :: st) hp Q := by
  intro p lch e R s m args below meth c H locs cells slots ad D cI cZ A H0 Qm ls hC hW hl hR
  exact W.lcmp hC.1 hC.2.1 hd  (kk p lch e R s m args below meth c H locs cells slots ad D cI cZ A H0 Qm ls hC hW hl hR)

theorem E_dup {Y : MY} {d pc : Nat} {l st : List Value} {hp : HP} {Q : Option Value → HP → Prop} {v : Value} (hd : decode Y.2.1 pc = .ok (.dup, 1)) (hv : v.category = 1) (kk : E Y d (pc + 1) l (v :: v :: st) hp Q) : E Y d pc l (v :: st) hp Q := by
  intro p lch e R s m args below meth c H locs cells slots ad D cI cZ A H0 Qm ls hC hW hl hR
  exact lv_dup hC.1 hC.2.1 hd ((cv_cat ad v).trans hv) (kk p lch e R s m args below meth c H locs cells slots ad D cI cZ A H0 Qm ls hC hW hl hR)

theorem E_pop {Y : MY} {d pc : Nat} {l st : List Value} {hp : HP} {Q : Option Value → HP → Prop} {v : Value} (hd : decode Y.2.1 pc = .ok (.pop, 1)) (hv : v.category = 1) (kk : E Y d (pc + 1) l st hp Q) : E Y d pc l (v :: st) hp Q := by
  intro p lch e R s m args below meth c H locs cells slots ad D cI cZ A H0 Qm ls hC hW hl hR
  exact lv_pop hC.1 hC.2.1 hd ((cv_cat ad v).trans hv) (kk p lch e R s m args below meth c H locs cells slots ad D cI cZ A H0 Qm ls hC hW hl hR)

theorem E_dup2 {Y : MY} {d pc : Nat} {l st : List Value} {hp : HP} {Q : Option Value → HP → Prop} {v w : Value} (hd : decode Y.2.1 pc = .ok (.dup2, 1)) (hv : v.category = 1) (hw : w.category = 1) (kk : E Y d (pc + 1) l (v :: w :: v :: w :: st) hp Q) : E Y d pc l (v :: w :: st) hp Q := by
  intro p lch e R s m args below meth c H locs cells slots ad D cI cZ A H0 Qm ls hC hW hl hR
  exact lv_dup2_11 hC.1 hC.2.1 hd ((cv_cat ad v).trans hv) ((cv_cat ad w).trans hw) (kk p lch e R s m args below meth c H locs cells slots ad D cI cZ A H0 Qm ls hC hW hl hR)

theorem E_ldc {Y : MY} {d pc : Nat} {l st : List Value} {hp : HP} {Q : Option Value → HP → Prop} {index : Nat} {v : Int32} (hd : decode Y.2.1 pc = .ok (.ldc index, 2)) (hw : Jvm.Cond.constant Y.1 index v ∈ gtbl) (kk : E Y d (pc + 2) l (.int v :: st) hp Q) : E Y d pc l st hp Q := by
  intro p lch e R s m args below meth c H locs cells slots ad D cI cZ A H0 Qm ls hC hW hl hR
  exact lv_ldc hC.1 hC.2.1 hC.2.2.2.2.2.1 (hC.2.2.2.2.2.2.1 _ hw) hd (kk p lch e R s m args below meth c H locs cells slots ad D cI cZ A H0 Qm ls hC hW hl hR)

theorem E_ldcw {Y : MY} {d pc : Nat} {l st : List Value} {hp : HP} {Q : Option Value → HP → Prop} {index : Nat} {v : Int32} (hd : decode Y.2.1 pc = .ok (.ldc_w index, 3)) (hw : Jvm.Cond.constant Y.1 index v ∈ gtbl) (kk : E Y d (pc + 3) l (.int v :: st) hp Q) : E Y d pc l st hp Q := by
  intro p lch e R s m args below meth c H locs cells slots ad D cI cZ A H0 Qm ls hC hW hl hR
  exact lv_ldcw hC.1 hC.2.1 hC.2.2.2.2.2.1 (hC.2.2.2.2.2.2.1 _ hw) hd (kk p lch e R s m args below meth c H locs cells slots ad D cI cZ A H0 Qm ls hC hW hl hR)

theorem E_ldc2 {Y : MY} {d pc : Nat} {l st : List Value} {hp : HP} {Q : Option Value → HP → Prop} {index : Nat} {v : Int64} (hd : decode Y.2.1 pc = .ok (.ldc2_w index, 3)) (hw : Jvm.Cond.constantLong Y.1 index v ∈ gtbl) (kk : E Y d (pc + 3) l (.long v :: st) hp Q) : E Y d pc l st hp Q := by
  intro p lch e R s m args below meth c H locs cells slots ad D cI cZ A H0 Qm ls hC hW hl hR
  exact lv_ldc2 hC.1 hC.2.1 hC.2.2.2.2.2.1 (hC.2.2.2.2.2.2.1 _ hw) hd (kk p lch e R s m args below meth c H locs cells slots ad D cI cZ A H0 Qm ls hC hW hl hR)

theorem E_iload_n {Y : MY} {d pc : Nat} {l st : List Value} {hp : HP} {Q : Option Value → HP → Prop} {k : Fin 4} {x : Int32} (hd : decode Y.2.1 pc = .ok (.iload_n k, 1)) (hv : l[(k : Nat)]? = some (.int x)) (kk : E Y d (pc + 1) l (.int x :: st) hp Q) : E Y d pc l st hp Q := by
  intro p lch e R s m args below meth c H locs cells slots ad D cI cZ A H0 Qm ls hC hW hl hR
  exact lv_iload_n hC.1 hC.2.1 hd rfl (lvr_at hl hv (by intro h; cases h)) (kk p lch e R s m args below meth c H locs cells slots ad D cI cZ A H0 Qm ls hC hW hl hR)

theorem E_iload {Y : MY} {d pc : Nat} {l st : List Value} {hp : HP} {Q : Option Value → HP → Prop} {i : Nat} {x : Int32} (hd : decode Y.2.1 pc = .ok (.iload i, 2)) (hv : l[i]? = some (.int x)) (kk : E Y d (pc + 2) l (.int x :: st) hp Q) : E Y d pc l st hp Q := by
  intro p lch e R s m args below meth c H locs cells slots ad D cI cZ A H0 Qm ls hC hW hl hR
  exact lv_iload hC.1 hC.2.1 hd (lvr_at hl hv (by intro h; cases h)) (kk p lch e R s m args below meth c H locs cells slots ad D cI cZ A H0 Qm ls hC hW hl hR)

theorem E_lload_n {Y : MY} {d pc : Nat} {l st : List Value} {hp : HP} {Q : Option Value → HP → Prop} {k : Fin 4} {x : Int64} (hd : decode Y.2.1 pc = .ok (.lload_n k, 1)) (hv : l[(k : Nat)]? = some (.long x)) (kk : E Y d (pc + 1) l (.long x :: st) hp Q) : E Y d pc l st hp Q := by
  intro p lch e R s m args below meth c H locs cells slots ad D cI cZ A H0 Qm ls hC hW hl hR
  exact lv_lload_n hC.1 hC.2.1 hd rfl (lvr_at hl hv (by intro h; cases h)) (kk p lch e R s m args below meth c H locs cells slots ad D cI cZ A H0 Qm ls hC hW hl hR)

theorem E_lload {Y : MY} {d pc : Nat} {l st : List Value} {hp : HP} {Q : Option Value → HP → Prop} {i : Nat} {x : Int64} (hd : decode Y.2.1 pc = .ok (.lload i, 2)) (hv : l[i]? = some (.long x)) (kk : E Y d (pc + 2) l (.long x :: st) hp Q) : E Y d pc l st hp Q := by
  intro p lch e R s m args below meth c H locs cells slots ad D cI cZ A H0 Qm ls hC hW hl hR
  exact lv_lload hC.1 hC.2.1 hd (lvr_at hl hv (by intro h; cases h)) (kk p lch e R s m args below meth c H locs cells slots ad D cI cZ A H0 Qm ls hC hW hl hR)

theorem E_aload_n {Y : MY} {d pc : Nat} {l st : List Value} {hp : HP} {Q : Option Value → HP → Prop} {k : Fin 4} {x : Nat} (hd : decode Y.2.1 pc = .ok (.aload_n k, 1)) (hv : l[(k : Nat)]? = some (.ref x)) (kk : E Y d (pc + 1) l (.ref x :: st) hp Q) : E Y d pc l st hp Q := by
  intro p lch e R s m args below meth c H locs cells slots ad D cI cZ A H0 Qm ls hC hW hl hR
  exact lv_aload_n hC.1 hC.2.1 hd rfl (lvr_at hl hv (by intro h; cases h)) (kk p lch e R s m args below meth c H locs cells slots ad D cI cZ A H0 Qm ls hC hW hl hR)

theorem E_aload {Y : MY} {d pc : Nat} {l st : List Value} {hp : HP} {Q : Option Value → HP → Prop} {i : Nat} {x : Nat} (hd : decode Y.2.1 pc = .ok (.aload i, 2)) (hv : l[i]? = some (.ref x)) (kk : E Y d (pc + 2) l (.ref x :: st) hp Q) : E Y d pc l st hp Q := by
  intro p lch e R s m args below meth c H locs cells slots ad D cI cZ A H0 Qm ls hC hW hl hR
  exact lv_aload hC.1 hC.2.1 hd (lvr_at hl hv (by intro h; cases h)) (kk p lch e R s m args below meth c H locs cells slots ad D cI cZ A H0 Qm ls hC hW hl hR)

theorem E_istore_n {Y : MY} {d pc : Nat} {l st : List Value} {hp : HP} {Q : Option Value → HP → Prop} {k : Fin 4} {i : Nat} {x : Int32} {l2 : List Value} (hd : decode Y.2.1 pc = .ok (.istore_n k, 1)) (hi : (k : Nat) = i) (hn : i < Y.2.2.1) (hl2 : stI l i (.int x) = l2) (kk : E Y d (pc + 1) l2 st hp Q) : E Y d pc l (.int x :: st) hp Q := by
  intro p lch e R s m args below meth c H locs cells slots ad D cI cZ A H0 Qm ls hC hW hl hR
  exact lv_istore_n hC.1 hC.2.1 hd hi hl hn rfl (fun ls2 h2 => kk p lch e R s m args below meth c H locs cells slots ad D cI cZ A H0 Qm ls2 hC hW (hl2 ▸ lvr_st1 (x := .int x) h2) hR)

theorem E_istore {Y : MY} {d pc : Nat} {l st : List Value} {hp : HP} {Q : Option Value → HP → Prop} {i : Nat} {x : Int32} {l2 : List Value} (hd : decode Y.2.1 pc = .ok (.istore i, 2)) (hn : i < Y.2.2.1) (hl2 : stI l i (.int x) = l2) (kk : E Y d (pc + 2) l2 st hp Q) : E Y d pc l (.int x :: st) hp Q := by
  intro p lch e R s m args below meth c H locs cells slots ad D cI cZ A H0 Qm ls hC hW hl hR
  exact lv_istore hC.1 hC.2.1 hd hl hn rfl (fun ls2 h2 => kk p lch e R s m args below meth c H locs cells slots ad D cI cZ A H0 Qm ls2 hC hW (hl2 ▸ lvr_st1 (x := .int x) h2) hR)

theorem E_lstore_n {Y : MY} {d pc : Nat} {l st : List Value} {hp : HP} {Q : Option Value → HP → Prop} {k : Fin 4} {i : Nat} {x : Int64} {l2 : List Value} (hd : decode Y.2.1 pc = .ok (.lstore_n k, 1)) (hi : (k : Nat) = i) (hn : i + 1 < Y.2.2.1) (hl2 : stL l i (.long x) = l2) (kk : E Y d (pc + 1) l2 st hp Q) : E Y d pc l (.long x :: st) hp Q := by
  intro p lch e R s m args below meth c H locs cells slots ad D cI cZ A H0 Qm ls hC hW hl hR
  exact lv_lstore_n hC.1 hC.2.1 hd hi hl hn rfl (fun ls2 h2 => kk p lch e R s m args below meth c H locs cells slots ad D cI cZ A H0 Qm ls2 hC hW (hl2 ▸ lvr_st2 (x := .long x) h2) hR)

theorem E_lstore {Y : MY} {d pc : Nat} {l st : List Value} {hp : HP} {Q : Option Value → HP → Prop} {i : Nat} {x : Int64} {l2 : List Value} (hd : decode Y.2.1 pc = .ok (.lstore i, 2)) (hn : i + 1 < Y.2.2.1) (hl2 : stL l i (.long x) = l2) (kk : E Y d (pc + 2) l2 st hp Q) : E Y d pc l (.long x :: st) hp Q := by
  intro p lch e R s m args below meth c H locs cells slots ad D cI cZ A H0 Qm ls hC hW hl hR
  exact lv_lstore hC.1 hC.2.1 hd hl hn rfl (fun ls2 h2 => kk p lch e R s m args below meth c H locs cells slots ad D cI cZ A H0 Qm ls2 hC hW (hl2 ▸ lvr_st2 (x := .long x) h2) hR)

theorem E_astore_n {Y : MY} {d pc : Nat} {l st : List Value} {hp : HP} {Q : Option Value → HP → Prop} {k : Fin 4} {i : Nat} {x : Nat} {l2 : List Value} (hd : decode Y.2.1 pc = .ok (.astore_n k, 1)) (hi : (k : Nat) = i) (hn : i < Y.2.2.1) (hl2 : stI l i (.ref x) = l2) (kk : E Y d (pc + 1) l2 st hp Q) : E Y d pc l (.ref x :: st) hp Q := by
  intro p lch e R s m args below meth c H locs cells slots ad D cI cZ A H0 Qm ls hC hW hl hR
  exact lv_astore_n hC.1 hC.2.1 hd hi hl hn rfl (fun ls2 h2 => kk p lch e R s m args below meth c H locs cells slots ad D cI cZ A H0 Qm ls2 hC hW (hl2 ▸ lvr_st1 (x := .ref x) h2) hR)

theorem E_astore {Y : MY} {d pc : Nat} {l st : List Value} {hp : HP} {Q : Option Value → HP → Prop} {i : Nat} {x : Nat} {l2 : List Value} (hd : decode Y.2.1 pc = .ok (.astore i, 2)) (hn : i < Y.2.2.1) (hl2 : stI l i (.ref x) = l2) (kk : E Y d (pc + 2) l2 st hp Q) : E Y d pc l (.ref x :: st) hp Q := by
  intro p lch e R s m args below meth c H locs cells slots ad D cI cZ A H0 Qm ls hC hW hl hR
  exact lv_astore hC.1 hC.2.1 hd hl hn rfl (fun ls2 h2 => kk p lch e R s m args below meth c H locs cells slots ad D cI cZ A H0 Qm ls2 hC hW (hl2 ▸ lvr_st1 (x := .ref x) h2) hR)

theorem alf_at {ad : Nat → Nat} {q : Nat × Value} {l : List (Nat × Value)} (h : q ∈ l) : ∃ k : Nat, l[k]? = some q := List.getElem?_of_mem h
theorem E_iinc {Y : MY} {d pc : Nat} {l st : List Value} {hp : HP} {Q : Option Value → HP → Prop} {i : Nat} {n : Int} {x y : Int32} {l2 : List Value} (hd : decode Y.2.1 pc = .ok (.iinc i n, 3)) (hv : l[i]? = some (.int x)) (hy : x + Int32.ofInt n = y) (hn : i < Y.2.2.1) (hl2 : stI l i (.int y) = l2) (kk : E Y d (pc + 3) l2 st hp Q) : E Y d pc l st hp Q := by
  intro p lch e R s m args below meth c H locs cells slots ad D cI cZ A H0 Qm ls hC hW hl hR
  have h0 := alf_get (ad := ad) l 0 i _ hv (by intro h; cases h)
  rw [Nat.zero_add] at h0
  obtain ⟨k, hk⟩ := List.getElem?_of_mem h0
  exact lv_iinc hC.1 hC.2.1 hd hl hk hy hn rfl (fun ls2 h2 => kk p lch e R s m args below meth c H locs cells slots ad D cI cZ A H0 Qm ls2 hC hW (hl2 ▸ lvr_st1 (x := .int y) h2) hR)

theorem E_if_eq {Y : MY} {d pc : Nat} {l st : List Value} {hp : HP} {Q : Option Value → HP → Prop} {x : Int32} {off : Int} {tgt : Nat} (hd : decode Y.2.1 pc = .ok (.ifCond .eq off, 3)) (ht : (pc : Int) + off = (tgt : Int)) (kt : x = 0 → E Y d tgt l st hp Q) (kf : ¬ x = 0 → E Y d (pc + 3) l st hp Q) : E Y d pc l (.int x :: st) hp Q := by
  intro p lch e R s m args below meth c H locs cells slots ad D cI cZ A H0 Qm ls hC hW hl hR
  exact lv_if_eq hC.1 hC.2.1 hd ht (fun c9 => kt c9 p lch e R s m args below meth c H locs cells slots ad D cI cZ A H0 Qm ls hC hW hl hR) (fun c9 => kf c9 p lch e R s m args below meth c H locs cells slots ad D cI cZ A H0 Qm ls hC hW hl hR)

theorem E_icmp_eq {Y : MY} {d pc : Nat} {l st : List Value} {hp : HP} {Q : Option Value → HP → Prop} {x y : Int32} {off : Int} {tgt : Nat} (hd : decode Y.2.1 pc = .ok (.if_icmp .eq off, 3)) (ht : (pc : Int) + off = (tgt : Int)) (kt : x = y → E Y d tgt l st hp Q) (kf : ¬ x = y → E Y d (pc + 3) l st hp Q) : E Y d pc l (.int y :: .int x :: st) hp Q := by
  intro p lch e R s m args below meth c H locs cells slots ad D cI cZ A H0 Qm ls hC hW hl hR
  exact lv_icmp_eq hC.1 hC.2.1 hd ht (fun c9 => kt c9 p lch e R s m args below meth c H locs cells slots ad D cI cZ A H0 Qm ls hC hW hl hR) (fun c9 => kf c9 p lch e R s m args below meth c H locs cells slots ad D cI cZ A H0 Qm ls hC hW hl hR)

theorem E_if_ne {Y : MY} {d pc : Nat} {l st : List Value} {hp : HP} {Q : Option Value → HP → Prop} {x : Int32} {off : Int} {tgt : Nat} (hd : decode Y.2.1 pc = .ok (.ifCond .ne off, 3)) (ht : (pc : Int) + off = (tgt : Int)) (kt : ¬ x = 0 → E Y d tgt l st hp Q) (kf : x = 0 → E Y d (pc + 3) l st hp Q) : E Y d pc l (.int x :: st) hp Q := by
  intro p lch e R s m args below meth c H locs cells slots ad D cI cZ A H0 Qm ls hC hW hl hR
  exact lv_if_ne hC.1 hC.2.1 hd ht (fun c9 => kt c9 p lch e R s m args below meth c H locs cells slots ad D cI cZ A H0 Qm ls hC hW hl hR) (fun c9 => kf c9 p lch e R s m args below meth c H locs cells slots ad D cI cZ A H0 Qm ls hC hW hl hR)

theorem E_icmp_ne {Y : MY} {d pc : Nat} {l st : List Value} {hp : HP} {Q : Option Value → HP → Prop} {x y : Int32} {off : Int} {tgt : Nat} (hd : decode Y.2.1 pc = .ok (.if_icmp .ne off, 3)) (ht : (pc : Int) + off = (tgt : Int)) (kt : ¬ x = y → E Y d tgt l st hp Q) (kf : x = y → E Y d (pc + 3) l st hp Q) : E Y d pc l (.int y :: .int x :: st) hp Q := by
  intro p lch e R s m args below meth c H locs cells slots ad D cI cZ A H0 Qm ls hC hW hl hR
  exact lv_icmp_ne hC.1 hC.2.1 hd ht (fun c9 => kt c9 p lch e R s m args below meth c H locs cells slots ad D cI cZ A H0 Qm ls hC hW hl hR) (fun c9 => kf c9 p lch e R s m args below meth c H locs cells slots ad D cI cZ A H0 Qm ls hC hW hl hR)

theorem E_if_lt {Y : MY} {d pc : Nat} {l st : List Value} {hp : HP} {Q : Option Value → HP → Prop} {x : Int32} {off : Int} {tgt : Nat} (hd : decode Y.2.1 pc = .ok (.ifCond .lt off, 3)) (ht : (pc : Int) + off = (tgt : Int)) (kt : x < 0 → E Y d tgt l st hp Q) (kf : ¬ x < 0 → E Y d (pc + 3) l st hp Q) : E Y d pc l (.int x :: st) hp Q := by
  intro p lch e R s m args below meth c H locs cells slots ad D cI cZ A H0 Qm ls hC hW hl hR
  exact lv_if_lt hC.1 hC.2.1 hd ht (fun c9 => kt c9 p lch e R s m args below meth c H locs cells slots ad D cI cZ A H0 Qm ls hC hW hl hR) (fun c9 => kf c9 p lch e R s m args below meth c H locs cells slots ad D cI cZ A H0 Qm ls hC hW hl hR)

theorem E_icmp_lt {Y : MY} {d pc : Nat} {l st : List Value} {hp : HP} {Q : Option Value → HP → Prop} {x y : Int32} {off : Int} {tgt : Nat} (hd : decode Y.2.1 pc = .ok (.if_icmp .lt off, 3)) (ht : (pc : Int) + off = (tgt : Int)) (kt : x < y → E Y d tgt l st hp Q) (kf : ¬ x < y → E Y d (pc + 3) l st hp Q) : E Y d pc l (.int y :: .int x :: st) hp Q := by
  intro p lch e R s m args below meth c H locs cells slots ad D cI cZ A H0 Qm ls hC hW hl hR
  exact lv_icmp_lt hC.1 hC.2.1 hd ht (fun c9 => kt c9 p lch e R s m args below meth c H locs cells slots ad D cI cZ A H0 Qm ls hC hW hl hR) (fun c9 => kf c9 p lch e R s m args below meth c H locs cells slots ad D cI cZ A H0 Qm ls hC hW hl hR)

theorem E_if_ge {Y : MY} {d pc : Nat} {l st : List Value} {hp : HP} {Q : Option Value → HP → Prop} {x : Int32} {off : Int} {tgt : Nat} (hd : decode Y.2.1 pc = .ok (.ifCond .ge off, 3)) (ht : (pc : Int) + off = (tgt : Int)) (kt : 0 ≤ x → E Y d tgt l st hp Q) (kf : ¬ 0 ≤ x → E Y d (pc + 3) l st hp Q) : E Y d pc l (.int x :: st) hp Q := by
  intro p lch e R s m args below meth c H locs cells slots ad D cI cZ A H0 Qm ls hC hW hl hR
  exact lv_if_ge hC.1 hC.2.1 hd ht (fun c9 => kt c9 p lch e R s m args below meth c H locs cells slots ad D cI cZ A H0 Qm ls hC hW hl hR) (fun c9 => kf c9 p lch e R s m args below meth c H locs cells slots ad D cI cZ A H0 Qm ls hC hW hl hR)

theorem E_icmp_ge {Y : MY} {d pc : Nat} {l st : List Value} {hp : HP} {Q : Option Value → HP → Prop} {x y : Int32} {off : Int} {tgt : Nat} (hd : decode Y.2.1 pc = .ok (.if_icmp .ge off, 3)) (ht : (pc : Int) + off = (tgt : Int)) (kt : y ≤ x → E Y d tgt l st hp Q) (kf : ¬ y ≤ x → E Y d (pc + 3) l st hp Q) : E Y d pc l (.int y :: .int x :: st) hp Q := by
  intro p lch e R s m args below meth c H locs cells slots ad D cI cZ A H0 Qm ls hC hW hl hR
  exact lv_icmp_ge hC.1 hC.2.1 hd ht (fun c9 => kt c9 p lch e R s m args below meth c H locs cells slots ad D cI cZ A H0 Qm ls hC hW hl hR) (fun c9 => kf c9 p lch e R s m args below meth c H locs cells slots ad D cI cZ A H0 Qm ls hC hW hl hR)

theorem E_if_gt {Y : MY} {d pc : Nat} {l st : List Value} {hp : HP} {Q : Option Value → HP → Prop} {x : Int32} {off : Int} {tgt : Nat} (hd : decode Y.2.1 pc = .ok (.ifCond .gt off, 3)) (ht : (pc : Int) + off = (tgt : Int)) (kt : 0 < x → E Y d tgt l st hp Q) (kf : ¬ 0 < x → E Y d (pc + 3) l st hp Q) : E Y d pc l (.int x :: st) hp Q := by
  intro p lch e R s m args below meth c H locs cells slots ad D cI cZ A H0 Qm ls hC hW hl hR
  exact lv_if_gt hC.1 hC.2.1 hd ht (fun c9 => kt c9 p lch e R s m args below meth c H locs cells slots ad D cI cZ A H0 Qm ls hC hW hl hR) (fun c9 => kf c9 p lch e R s m args below meth c H locs cells slots ad D cI cZ A H0 Qm ls hC hW hl hR)

theorem E_icmp_gt {Y : MY} {d pc : Nat} {l st : List Value} {hp : HP} {Q : Option Value → HP → Prop} {x y : Int32} {off : Int} {tgt : Nat} (hd : decode Y.2.1 pc = .ok (.if_icmp .gt off, 3)) (ht : (pc : Int) + off = (tgt : Int)) (kt : y < x → E Y d tgt l st hp Q) (kf : ¬ y < x → E Y d (pc + 3) l st hp Q) : E Y d pc l (.int y :: .int x :: st) hp Q := by
  intro p lch e R s m args below meth c H locs cells slots ad D cI cZ A H0 Qm ls hC hW hl hR
  exact lv_icmp_gt hC.1 hC.2.1 hd ht (fun c9 => kt c9 p lch e R s m args below meth c H locs cells slots ad D cI cZ A H0 Qm ls hC hW hl hR) (fun c9 => kf c9 p lch e R s m args below meth c H locs cells slots ad D cI cZ A H0 Qm ls hC hW hl hR)

theorem E_if_le {Y : MY} {d pc : Nat} {l st : List Value} {hp : HP} {Q : Option Value → HP → Prop} {x : Int32} {off : Int} {tgt : Nat} (hd : decode Y.2.1 pc = .ok (.ifCond .le off, 3)) (ht : (pc : Int) + off = (tgt : Int)) (kt : x ≤ 0 → E Y d tgt l st hp Q) (kf : ¬ x ≤ 0 → E Y d (pc + 3) l st hp Q) : E Y d pc l (.int x :: st) hp Q := by
  intro p lch e R s m args below meth c H locs cells slots ad D cI cZ A H0 Qm ls hC hW hl hR
  exact lv_if_le hC.1 hC.2.1 hd ht (fun c9 => kt c9 p lch e R s m args below meth c H locs cells slots ad D cI cZ A H0 Qm ls hC hW hl hR) (fun c9 => kf c9 p lch e R s m args below meth c H locs cells slots ad D cI cZ A H0 Qm ls hC hW hl hR)

theorem E_icmp_le {Y : MY} {d pc : Nat} {l st : List Value} {hp : HP} {Q : Option Value → HP → Prop} {x y : Int32} {off : Int} {tgt : Nat} (hd : decode Y.2.1 pc = .ok (.if_icmp .le off, 3)) (ht : (pc : Int) + off = (tgt : Int)) (kt : x ≤ y → E Y d tgt l st hp Q) (kf : ¬ x ≤ y → E Y d (pc + 3) l st hp Q) : E Y d pc l (.int y :: .int x :: st) hp Q := by
  intro p lch e R s m args below meth c H locs cells slots ad D cI cZ A H0 Qm ls hC hW hl hR
  exact lv_icmp_le hC.1 hC.2.1 hd ht (fun c9 => kt c9 p lch e R s m args below meth c H locs cells slots ad D cI cZ A H0 Qm ls hC hW hl hR) (fun c9 => kf c9 p lch e R s m args below meth c H locs cells slots ad D cI cZ A H0 Qm ls hC hW hl hR)

theorem E_goto {Y : MY} {d pc : Nat} {l st : List Value} {hp : HP} {Q : Option Value → HP → Prop} {off : Int} {tgt : Nat} (hd : decode Y.2.1 pc = .ok (.goto off, 3)) (ht : (pc : Int) + off = (tgt : Int)) (kk : E Y d tgt l st hp Q) : E Y d pc l st hp Q := by
  intro p lch e R s m args below meth c H locs cells slots ad D cI cZ A H0 Qm ls hC hW hl hR
  exact lv_goto hC.1 hC.2.1 hd ht (kk p lch e R s m args below meth c H locs cells slots ad D cI cZ A H0 Qm ls hC hW hl hR)

theorem E_lookup {Y : MY} {d pc : Nat} {l st : List Value} {hp : HP} {Q : Option Value → HP → Prop} {dflt : Int} {ps : Array (Int × Int)} {len : Nat} {x : Int32} {off : Int} {tgt : Nat} (hd : decode Y.2.1 pc = .ok (.lookupswitch dflt ps, len)) (hps : (ps.toList.zip (ps.toList.drop 1)).all (fun (a, next) => a.1 < next.1) = true) (ho : Op.lookupswitch.offset ps.toList dflt x.toInt = off) (ht : (pc : Int) + off = (tgt : Int)) (kk : E Y d tgt l st hp Q) : E Y d pc l (.int x :: st) hp Q := by
  intro p lch e R s m args below meth c H locs cells slots ad D cI cZ A H0 Qm ls hC hW hl hR
  exact lv_lookup hC.1 hC.2.1 hd hps ho ht (kk p lch e R s m args below meth c H locs cells slots ad D cI cZ A H0 Qm ls hC hW hl hR)

theorem E_tableOut {Y : MY} {d pc : Nat} {l st : List Value} {hp : HP} {Q : Option Value → HP → Prop} {dflt lo hi : Int} {offs : Array Int} {len : Nat} {x : Int32} {tgt : Nat} (hd : decode Y.2.1 pc = .ok (.tableswitch dflt lo hi offs, len)) (h : x.toInt < lo ∨ hi < x.toInt) (ht : (pc : Int) + dflt = (tgt : Int)) (kk : E Y d tgt l st hp Q) : E Y d pc l (.int x :: st) hp Q := by
  intro p lch e R s m args below meth c H locs cells slots ad D cI cZ A H0 Qm ls hC hW hl hR
  exact lv_tableOut hC.1 hC.2.1 hd h ht (kk p lch e R s m args below meth c H locs cells slots ad D cI cZ A H0 Qm ls hC hW hl hR)

theorem E_tableIn {Y : MY} {d pc : Nat} {l st : List Value} {hp : HP} {Q : Option Value → HP → Prop} {dflt lo hi : Int} {offs : Array Int} {len : Nat} {x : Int32} {off : Int} {tgt : Nat} (hd : decode Y.2.1 pc = .ok (.tableswitch dflt lo hi offs, len)) (h1 : ¬ x.toInt < lo) (h2 : ¬ hi < x.toInt) (ho : offs[(x.toInt - lo).toNat]? = some off) (ht : (pc : Int) + off = (tgt : Int)) (kk : E Y d tgt l st hp Q) : E Y d pc l (.int x :: st) hp Q := by
  intro p lch e R s m args below meth c H locs cells slots ad D cI cZ A H0 Qm ls hC hW hl hR
  exact lv_tableIn hC.1 hC.2.1 hd h1 h2 ho ht (kk p lch e R s m args below meth c H locs cells slots ad D cI cZ A H0 Qm ls hC hW hl hR)

/-- what the tables say of class number ci; of a field's link -/
def CLS (ci : Nat) (C : String) (T : u_T) (N : Nat) (ty : Nat → FieldType) : Prop := vwCl[ci]? = some (C, T, N) ∧ (∀ w ∈ u_ws C T N, w ∈ gtbl) ∧ (∀ k, k < N → parseFieldDescriptor (T k).2.2.1 = some (ty k)) ∧ (∀ a, a < N → ∀ b, b < N → a ≠ b → (T a).2.1 ≠ (T b).2.1)
def FLK (own : String) (index ci k : Nat) (ty0 : FieldType) : Prop := ∃ (C : String) (T : u_T) (N : Nat) (ty : Nat → FieldType), CLS ci C T N ty ∧ k < N ∧ Cond.fieldLink own index C (T k).2.1 (T k).2.2.1 ∈ gtbl ∧ (T k).1 = C ∧ ty k = ty0
def FLP (ci k : Nat) : Prop := ∀ r : vw_C, vwCl[ci]? = some r → (r.2.1 k).2.2.2 = false

theorem E_get {Y : MY} {d pc : Nat} {l st : List Value} {hp : HP} {Q : Option Value → HP → Prop} {index ci k a : Nat} {ty : FieldType} {fs : List Value} {v : Value} (hd : decode Y.2.1 pc = .ok (.getfield index, 3)) (hF : FLK Y.1 index ci k ty) (ha : LV a) (hk : hp a = .inr (ci, fs)) (hv : fs[k]? = some v) (kk : E Y d (pc + 3) l (v :: st) hp Q) : E Y d pc l (.ref a :: st) hp Q := by
  intro p lch e R s m args below meth c H locs cells slots ad D cI cZ A H0 Qm ls hC hW hl hR
  obtain ⟨C, T, N, ty, ⟨hc, hin, -, -⟩, hkN, hlink, hTC, -⟩ := hF
  refine va_get hC.1 hC.2.1 hC.2.2.2.2.2.2.1 hin hC.2.2.2.2.2.1 hW.1 hW.2.1 (wpos a) (fs := fs.map (cv ad)) (by rw [mkW_get ha, hk]; rfl) hc k hkN (hC.2.2.2.2.2.2.1 _ hlink) (fun x h => by rw [hTC] at h; exact h) (v := cv ad v) (by rw [List.getElem?_map, hv]; rfl) hd (kk p lch e R s m args below meth c H locs cells slots ad D cI cZ A H0 Qm ls hC hW hl hR)

theorem E_put {Y : MY} {d pc : Nat} {l st : List Value} {hp : HP} {Q : Option Value → HP → Prop} {index ci k a : Nat} {ty : FieldType} {fs fs2 : List Value} {v : Value} (hd : decode Y.2.1 pc = .ok (.putfield index, 3)) (hF : FLK Y.1 index ci k ty) (hf : FLP ci k) (ha : LV a) (hk : hp a = .inr (ci, fs)) (hn : ∀ ad : Nat → Nat, narrow ty (cv ad v) = cv ad v ∧ fits ty (cv ad v) = true) (hkl : k < fs.length) (hfs : fs.set k v = fs2) (kk : E Y d (pc + 3) l st (hup hp a (.inr (ci, fs2))) Q) : E Y d pc l (v :: .ref a :: st) hp Q := by
  intro p lch e R s m args below meth c H locs cells slots ad D cI cZ A H0 Qm ls hC hW hl hR
  obtain ⟨C, T, N, ty1, ⟨hc, hin, hty, hnm⟩, hkN, hlink, hTC, hty2⟩ := hF
  subst hfs
  refine va_put hC.1 hC.2.1 hC.2.2.2.2.2.2.1 hin ty1 hty hnm hC.2.2.2.2.2.1 hW.1 hW.2.1 hW.2.2.1 hW.2.2.2.1 (wpos a) (fs := fs.map (cv ad)) (by rw [mkW_get ha, hk]; rfl) hc k hkN (hC.2.2.2.2.2.2.1 _ hlink) (fun x h => by rw [hTC] at h; exact h) (hf _ hc) (ty := ty) (v := cv ad v) (by rw [hty k hkN, hty2]) (hn ad).1 (hn ad).2 (by rw [List.length_map]; exact hkl) hd (fun H1 locs1 hP1 hD1 hS1 => ?_)
  have e9 : (mkW ad cI cZ hp).set (wpos a) (ad a, .inr (ci, (fs.map (cv ad)).set k (cv ad v))) = mkW ad cI cZ (hup hp a (.inr (ci, fs.set k v))) := by
    rw [← mkW_set ha]
    simp [cE, List.map_set]
  rw [e9] at hP1 hD1
  exact kk p lch e R s m args below meth c H1 locs1 cells slots ad D cI cZ A H0 Qm ls hC ⟨hW.1, hP1, hD1, hS1, hW.2.2.2.2⟩ hl hR

theorem E_iald {Y : MY} {d pc : Nat} {l st : List Value} {hp : HP} {Q : Option Value → HP → Prop} {a n : Nat} {f : Nat → Int32} {i : Int32} (hd : decode Y.2.1 pc = .ok (.iaload, 1)) (ha : LV a) (hk : hp a = .inl (false, n, f)) (hin : vp_in i n) (kk : E Y d (pc + 1) l (.int (f i.toNatClampNeg) :: st) hp Q) : E Y d pc l (.int i :: .ref a :: st) hp Q := by
  intro p lch e R s m args below meth c H locs cells slots ad D cI cZ A H0 Qm ls hC hW hl hR
  exact va_iald hC.1 hC.2.1 hW.1 hW.2.1 (wpos a) 0 (by rw [mkW_get ha, hk]; rfl) rfl hin hd (kk p lch e R s m args below meth c H locs cells slots ad D cI cZ A H0 Qm ls hC hW hl hR)

theorem E_zald {Y : MY} {d pc : Nat} {l st : List Value} {hp : HP} {Q : Option Value → HP → Prop} {a n : Nat} {f : Nat → Int32} {i : Int32} (hd : decode Y.2.1 pc = .ok (.baload, 1)) (ha : LV a) (hk : hp a = .inl (true, n, f)) (hin : vp_in i n) (kk : E Y d (pc + 1) l (.int (f i.toNatClampNeg) :: st) hp Q) : E Y d pc l (.int i :: .ref a :: st) hp Q := by
  intro p lch e R s m args below meth c H locs cells slots ad D cI cZ A H0 Qm ls hC hW hl hR
  exact va_zald hC.1 hC.2.1 hW.1 hW.2.1 (wpos a) 1 (by rw [mkW_get ha, hk]; rfl) rfl hin hd (kk p lch e R s m args below meth c H locs cells slots ad D cI cZ A H0 Qm ls hC hW hl hR)

theorem E_iast {Y : MY} {d pc : Nat} {l st : List Value} {hp : HP} {Q : Option Value → HP → Prop} {a n : Nat} {f f2 : Nat → Int32} {i x : Int32} (hd : decode Y.2.1 pc = .ok (.iastore, 1)) (ha : LV a) (hk : hp a = .inl (false, n, f)) (hin : vp_in i n) (hf : upd f i.toNatClampNeg x = f2) (kk : E Y d (pc + 1) l st (hup hp a (.inl (false, n, f2))) Q) : E Y d pc l (.int x :: .int i :: .ref a :: st) hp Q := by
  intro p lch e R s m args below meth c H locs cells slots ad D cI cZ A H0 Qm ls hC hW hl hR
  subst hf
  refine va_iast hC.1 hC.2.1 hW.1 hW.2.1 hW.2.2.1 hW.2.2.2.1 (wpos a) 0 (cA := if false then cZ else cI) (n := n) (f := f) (by rw [mkW_get ha, hk]; rfl) rfl hin hd (fun H1 locs1 hP1 hD1 hS1 => ?_)
  have e9 : (mkW ad cI cZ hp).set (wpos a) (ad a, .inl (if false then cZ else cI, n, .inl (upd f i.toNatClampNeg x))) = mkW ad cI cZ (hup hp a (.inl (false, n, upd f i.toNatClampNeg x))) := by
    rw [← mkW_set ha]
    rfl
  rw [e9] at hP1 hD1
  exact kk p lch e R s m args below meth c H1 locs1 cells slots ad D cI cZ A H0 Qm ls hC ⟨hW.1, hP1, hD1, hS1, hW.2.2.2.2⟩ hl hR

theorem E_zast {Y : MY} {d pc : Nat} {l st : List Value} {hp : HP} {Q : Option Value → HP → Prop} {a n : Nat} {f f2 : Nat → Int32} {i x : Int32} (hd : decode Y.2.1 pc = .ok (.bastore, 1)) (ha : LV a) (hk : hp a = .inl (true, n, f)) (hin : vp_in i n) (hf : upd f i.toNatClampNeg (vp_nar .boolean x) = f2) (kk : E Y d (pc + 1) l st (hup hp a (.inl (true, n, f2))) Q) : E Y d pc l (.int x :: .int i :: .ref a :: st) hp Q := by
  intro p lch e R s m args below meth c H locs cells slots ad D cI cZ A H0 Qm ls hC hW hl hR
  subst hf
  refine va_zast hC.1 hC.2.1 hW.1 hW.2.1 hW.2.2.1 hW.2.2.2.1 (wpos a) 1 (cA := if true then cZ else cI) (n := n) (f := f) (by rw [mkW_get ha, hk]; rfl) rfl hin hd (fun H1 locs1 hP1 hD1 hS1 => ?_)
  have e9 : (mkW ad cI cZ hp).set (wpos a) (ad a, .inl (if true then cZ else cI, n, .inl (upd f i.toNatClampNeg (vp_nar .boolean x)))) = mkW ad cI cZ (hup hp a (.inl (true, n, upd f i.toNatClampNeg (vp_nar .boolean x)))) := by
    rw [← mkW_set ha]
    rfl
  rw [e9] at hP1 hD1
  exact kk p lch e R s m args below meth c H1 locs1 cells slots ad D cI cZ A H0 Qm ls hC ⟨hW.1, hP1, hD1, hS1, hW.2.2.2.2⟩ hl hR

theorem E_alen {Y : MY} {d pc : Nat} {l st : List Value} {hp : HP} {Q : Option Value → HP → Prop} {a n : Nat} {b : Bool} {f : Nat → Int32} {v : Int32} (hd : decode Y.2.1 pc = .ok (.arraylength, 1)) (ha : LV a) (hk : hp a = .inl (b, n, f)) (hv : Int32.ofNat n = v) (kk : E Y d (pc + 1) l (.int v :: st) hp Q) : E Y d pc l (.ref a :: st) hp Q := by
  intro p lch e R s m args below meth c H locs cells slots ad D cI cZ A H0 Qm ls hC hW hl hR
  cases b
  · exact va_alen hC.1 hC.2.1 hW.1 hW.2.1 (wpos a) 0 (x := (n, .inl f)) (by rw [mkW_get ha, hk]; rfl) rfl hv hd (kk p lch e R s m args below meth c H locs cells slots ad D cI cZ A H0 Qm ls hC hW hl hR)
  · exact va_alen hC.1 hC.2.1 hW.1 hW.2.1 (wpos a) 1 (x := (n, .inl f)) (by rw [mkW_get ha, hk]; rfl) rfl hv hd (kk p lch e R s m args below meth c H locs cells slots ad D cI cZ A H0 Qm ls hC hW hl hR)

theorem E_sld {Y : MY} {d pc : Nat} {l st : List Value} {hp : HP} {Q : Option Value → HP → Prop} {L : Nat} {xs : Nat → Int32} {i : Int32} (hd : decode Y.2.1 pc = .ok (.iaload, 1)) (hsc : Y.2.2.2.2 = some (L, xs)) (hin : vp_in i L) (kk : E Y d (pc + 1) l (.int (xs i.toNatClampNeg) :: st) hp Q) : E Y d pc l (.int i :: .ref 50 :: st) hp Q := by
  intro p lch e R s m args below meth c H locs cells slots ad D cI cZ A H0 Qm ls hC hW hl hR
  have h9 := hW.2.2.2.2.2
  rw [hsc] at h9
  exact va_sld hC.1 hC.2.1 h9.1 h9.2.1 h9.2.2 hW.2.2.2.1 hin hd (kk p lch e R s m args below meth c H locs cells slots ad D cI cZ A H0 Qm ls hC hW hl hR)

theorem E_slen {Y : MY} {d pc : Nat} {l st : List Value} {hp : HP} {Q : Option Value → HP → Prop} {L : Nat} {xs : Nat → Int32} {v : Int32} (hd : decode Y.2.1 pc = .ok (.arraylength, 1)) (hsc : Y.2.2.2.2 = some (L, xs)) (hv : Int32.ofNat L = v) (kk : E Y d (pc + 1) l (.int v :: st) hp Q) : E Y d pc l (.ref 50 :: st) hp Q := by
  intro p lch e R s m args below meth c H locs cells slots ad D cI cZ A H0 Qm ls hC hW hl hR
  have h9 := hW.2.2.2.2.2
  rw [hsc] at h9
  subst hv
  exact va_slen hC.1 hC.2.1 h9.1 h9.2.1 h9.2.2 hW.2.2.2.1 hd (kk p lch e R s m args below meth c H locs cells slots ad D cI cZ A H0 Qm ls hC hW hl hR)

theorem E_iret {Y : MY} {d pc : Nat} {l st : List Value} {hp : HP} {Q : Option Value → HP → Prop} {x : Int32} {ty : FieldType} (hd : decode Y.2.1 pc = .ok (.ireturn, 1)) (hr : Y.2.2.2.1 = some ty) (hn : narrow ty (.int x) = .int x) (hQ : Q (some (.int x)) hp) : E Y d pc l [.int x] hp Q := by
  intro p lch e R s m args below meth c H locs cells slots ad D cI cZ A H0 Qm ls hC hW hl hR
  exact hR (some (.int x)) hp H locs pc ls hQ hW (Or.inl ⟨x, ty, rfl, hd, hr, hn⟩)

theorem E_lret {Y : MY} {d pc : Nat} {l st : List Value} {hp : HP} {Q : Option Value → HP → Prop} {x : Int64} (hd : decode Y.2.1 pc = .ok (.lreturn, 1)) (hr : Y.2.2.2.1 = some .long) (hQ : Q (some (.long x)) hp) : E Y d pc l [.long x] hp Q := by
  intro p lch e R s m args below meth c H locs cells slots ad D cI cZ A H0 Qm ls hC hW hl hR
  exact hR (some (.long x)) hp H locs pc ls hQ hW (Or.inr (Or.inl ⟨x, rfl, hd, hr⟩))

theorem E_vret {Y : MY} {d pc : Nat} {l st : List Value} {hp : HP} {Q : Option Value → HP → Prop}  (hd : decode Y.2.1 pc = .ok (.return_, 1)) (hr : Y.2.2.2.1 = none) (hQ : Q none hp) : E Y d pc l [] hp Q := by
  intro p lch e R s m args below meth c H locs cells slots ad D cI cZ A H0 Qm ls hC hW hl hR
  exact hR none hp H locs pc ls hQ hW (Or.inr (Or.inr ⟨rfl, hd, hr⟩))

theorem E_mono {Y : MY} {d pc : Nat} {l st : List Value} {hp : HP} {Q : Option Value → HP → Prop} {Q2 : Option Value → HP → Prop} (h : E Y d pc l st hp Q2) (hq : ∀ v h', Q2 v h' → Q v h') : E Y d pc l st hp Q := by
  intro p lch e R s m args below meth c H locs cells slots ad D cI cZ A H0 Qm ls hC hW hl hR
  exact h p lch e R s m args below meth c H locs cells slots ad D cI cZ A H0 Qm ls hC hW hl (fun v hp' H' locs' pc' ls' h1 => hR v hp' H' locs' pc' ls' (hq v hp' h1))
end
section
theorem entL_get (ad : Nat → Nat) : ∀ (vs : List Value) (j i : Nat) (v : Value), (entL vs)[i]? = some v → v ≠ .null → (j + i, cv ad v) ∈ lv_args j (vs.map (cv ad))
  | [], j, i, v, h, hv => by simp [entL] at h
  | w :: vs, j, i, v, h, hv => by
    rw [List.map_cons, lv_args, cv_cat]
    by_cases hc : w.category = 2
    · rw [entL, if_pos hc] at h
      rw [if_pos hc]
      match i, h with
      | 0, h =>
        simp at h
        subst h
        exact List.mem_cons_self
      | 1, h => simp at h; exact absurd h.symm hv
      | i + 2, h =>
        rw [List.getElem?_cons_succ, List.getElem?_cons_succ] at h
        have := entL_get ad vs (j + 2) i v h hv
        rw [show j + (i + 2) = j + 2 + i by omega]
        exact List.mem_cons_of_mem _ this
    · rw [entL, if_neg hc] at h
      rw [if_neg hc]
      match i, h with
      | 0, h =>
        simp at h
        subst h
        exact List.mem_cons_self
      | i + 1, h =>
        rw [List.getElem?_cons_succ] at h
        have := entL_get ad vs (j + 1) i v h hv
        rw [show j + (i + 1) = j + 1 + i by omega]
        exact List.mem_cons_of_mem _ this
theorem ent_get (ad : Nat → Nat) (n : Nat) (vs : List Value) (i : Nat) (v : Value) (h : (ent n vs)[i]? = some v) (hv : v ≠ .null) : (i, cv ad v) ∈ lv_args 0 (vs.map (cv ad)) := by
  have h2 : (entL vs)[i]? = some v := by
    unfold ent at h
    by_cases hi : i < (entL vs).length
    · rw [List.getElem?_append_left hi] at h
      exact h
    · rw [List.getElem?_append_right (by omega)] at h
      exact absurd (List.eq_of_mem_replicate (List.mem_of_getElem? h)) hv
  have := entL_get ad vs 0 i v h2 hv
  simpa using this
theorem sl_len (ad : Nat → Nat) : ∀ vs : List Value, (lg_sl (vs.map (cv ad))).length = (lg_sl vs).length
  | [] => rfl
  | v :: vs => by
    have := sl_len ad vs
    simp only [lg_sl, List.map_cons, List.flatMap_cons, List.length_append, cv_cat] at this ⊢
    rw [this]
    congr 1
    by_cases h : v.category = 2 <;> simp [h]
theorem sum_cat (ad : Nat → Nat) : ∀ vs : List Value, ((vs.map (cv ad)).map fun v => v.category).sum = (vs.map fun v => v.category).sum
  | [] => rfl
  | v :: vs => by
    simp only [List.map_cons, List.sum_cons, cv_cat, sum_cat ad vs]
theorem ent_lvr {ad : Nat → Nat} {n : Nat} {vs : List Value} (h : (lg_sl vs).length ≤ n) : lvr ad ((lg_sl (vs.map (cv ad)) ++ List.replicate (n - (lg_sl (vs.map (cv ad))).length) Slot.unset).toArray) n (ent n vs) := by
  have h0 := lv_entry (vs.map (cv ad)) (n := n) (by rw [sl_len]; exact h)
  refine ⟨h0.1, h0.2.1, fun q hq => ?_⟩
  obtain ⟨k, v, h1, h2, rfl⟩ := alf_mem _ _ _ hq
  rw [Nat.zero_add]
  exact h0.2.2 _ (ent_get ad n vs k v h1 h2)
/-! a method's contract out of E, and the calls -/
def rmd (d : Nat) : Room := { frames := d, cells := 0, slots := 0, locals := 40 * d }
def wsd (y : MethodName) (Y : MY) : List Cond := .code y Y.2.1 Y.2.2.1 Y.2.2.2.1 :: gtbl
def BW (D : va_G) (cI cZ : ClassId) (ad : Nat → Nat) (hp : HP) (sz : Nat) (U : State) : Prop :=
  U.heap.size = sz ∧ va_P D vwCl (mkW ad cI cZ hp) U.heap ∧ va_K D vwCl [(cI, .int), (cZ, .boolean)] U ∧ va_D (fun _ => True) (mkW ad cI cZ hp) ∧ (∀ q ∈ nests, va_Nw (.methodLinkNest q.1 q.2.1 q.2.2.1 q.2.2.2) U)
def QcE (D : va_G) (cI cZ : ClassId) (ad : Nat → Nat) (hp : HP) (sz : Nat) (Q : Option Value → HP → Prop) : Array Value → State → Outcome → State → Prop := fun _ st oc t =>
  (∃ (v : Option Value) (hp' : HP), oc = .returned (v.map (cv ad)) ∧ Q v hp' ∧ va_P D vwCl (mkW ad cI cZ hp') t.heap) ∧ va_F (va_A (mkW ad cI cZ hp) sz) st t
theorem BW_blind {D : va_G} {cI cZ : ClassId} {ad : Nat → Nat} {hp : HP} {sz : Nat} {av : List Value} : FrameBlind (va_Pc av (BW D cI cZ ad hp sz)) := by
  intro a U g mk q
  obtain ⟨q0, q1, q2, q3, q4, q5⟩ := q
  exact ⟨q0, q1, q2, va_K.moved (u := U) (U := U.calling g mk a) (Vm.Alike.refl U.vm) q3, q4, fun w hw => va_Nw.same rfl (u := U) rfl (q5 w hw)⟩
/-- a contract out of W, of a method in whose place no entry of the natives' table runs, whatever its class's name -/
theorem wk_ofWF {l : Launch} {y : MethodName} {ws ws' : List Cond} {rm : Room} {Pc : Array Value → State → Prop} {Qc : Array Value → State → Outcome → State → Prop} {mc ms : Nat} {free : Addr → Prop} {cc : ByteArray} {maxL : Nat} {ret : Option FieldType}
    (hy : plainFor y = true) (hw : ws = Cond.code y cc maxL ret :: ws')
    (body : ∀ p e s m args below meth c s₁, BodyLoose p l y (headSpec ws rm) cc maxL ret e s m args below meth c s₁ → c.maxLocals = maxL → Pc args s →
      W p l e (headSpec ws rm).room s m args below meth c s.heap [] 0 0 (MQ below Qc args s mc ms free) (entryFrame m args maxL)) : Met l y ws rm Pc Qc mc ms free := by
  refine MetFree.of_bodySF (code := cc) (maxLocals := maxL) (ret := ret) hy (fun args s m h hn => ?_) (fun p e s m args below meth c s₁ B hml hP _ => ?_)
  · obtain ⟨meth, c, h1, h2, h3, h4, h5, h6, -, -⟩ := Cond.code_spec hn (atoms_spec (ws := ws) h _ (by rw [hw]; exact List.mem_cons_self))
    exact ⟨meth, c, h1, h2, h3, h4, h5, h6⟩
  · obtain ⟨t, a1, o, b1, b2, b3⟩ := body p e s m args below meth c s₁ B hml hP s₁ (by rw [B.state]; rfl) (Stand.of_body B)
    exact ⟨t, o, a1, b1, b2, b3.1, b3.2⟩
set_option maxHeartbeats 1000000 in
theorem met_of_E {l : Launch} {y : MethodName} {Y : MY} {d : Nat} {As : List Value} {hp : HP} {Q : Option Value → HP → Prop} (hpl : plainFor y = true) (hY : Y.1 = y.cls) (hsc : Y.2.2.2.2 = none) (hfit : (lg_sl As).length ≤ Y.2.2.1) (hE : E Y d 0 (ent Y.2.2.1 As) [] hp Q) (D : va_G) (cI cZ : ClassId) (ad : Nat → Nat) (sz : Nat) :
    Met l y (wsd y Y) (rmd d) (va_Pc (As.map (cv ad)) (BW D cI cZ ad hp sz)) (QcE D cI cZ ad hp sz Q) 0 0 (va_A (mkW ad cI cZ hp) sz) := by
  refine wk_ofWF (cc := Y.2.1) (maxL := Y.2.2.1) (ret := Y.2.2.2.1) hpl rfl ?_
  intro p e s m args below meth c s₁ B hml hv
  obtain ⟨rfl, hsz, hP, hK, hD0, hN⟩ := hv
  have hx := B.exec
  have hb := B.bytes
  have hr := B.returns
  have hts := atoms_spec (ws := wsd y Y) B.pre
  have hown : s.vm.findClass Y.1 = some m.cls := by rw [hY]; exact findClass_of_methodNamed B.named
  have hlocks := B.notSynchronized
  subst hsz
  have hD := hD0.self (sz := s.heap.size)
  have hS : va_S (va_A (mkW ad cI cZ hp) s.heap.size) s.heap s.heap [] := va_S.rf
  rw [lg_entry_eq]
  refine hE p l e (rmd d) s m _ below meth c s.heap [] 0 0 ad D cI cZ (va_A (mkW ad cI cZ hp) s.heap.size) s.heap _ _ ⟨hx, hb, hml, hr, hlocks, hown, fun w hw => hts w (List.mem_cons_of_mem _ hw), hN, Nat.le_refl _, Nat.le_refl _, Nat.le_refl _, Nat.le_refl _⟩ ⟨hK, hP, hD, hS, fun q h => Or.inr h, by rw [hsc]; trivial⟩ (ent_lvr hfit) ?_
  intro v hp' H' locs' pc' ls' hQ hW hT
  obtain ⟨hK2, hP2, hD2, hS2, -⟩ := hW
  rcases hT with ⟨x, ty, rfl, hd, h1, h2⟩ | ⟨x, rfl, hd, h1⟩ | ⟨rfl, hd, h1⟩
  · exact W.zret (v := x) hx hb (hr.trans h1) h2 (fun t ht hWm => ⟨⟨some (.int x), hp', rfl, hQ, by rw [ht]; exact hP2⟩, hS2.F ht⟩) hS2.2.2 hd hlocks
  · exact W.lret (v := x) hx hb (hr.trans h1) (fun t ht hWm => ⟨⟨some (.long x), hp', rfl, hQ, by rw [ht]; exact hP2⟩, hS2.F ht⟩) hS2.2.2 hd hlocks
  · exact W.vret hx hb (hr.trans h1) (fun t ht hWm => ⟨⟨none, hp', rfl, hQ, by rw [ht]; exact hP2⟩, hS2.F ht⟩) hS2.2.2 hd hlocks
/-- what the tables say of a method that is called -/
def MTH (y : MethodName) (Y : MY) (n : Nat) : Prop := Cond.initialized y.cls ∈ gtbl ∧ Cond.code y Y.2.1 Y.2.2.1 Y.2.2.2.1 ∈ gtbl ∧ (y.cls ≠ "java/lang/invoke/MethodHandle" ∧ y.cls ≠ "java/lang/invoke/VarHandle" ∧ (parseMethodDescriptor y.desc).map (fun d => d.parameters.length) = some n) ∧ plainFor y = true ∧ Y.1 = y.cls ∧ Y.2.2.2.2 = none ∧ Y.2.2.1 ≤ 21
theorem good_wsd {y : MethodName} {Y : MY} {n : Nat} (h : MTH y Y n) : GoodIn gtbl (wsd y Y) := by
  intro w hw
  rcases List.mem_cons.mp hw with rfl | hw
  · exact ⟨h.2.1, gtbl_good h.2.1⟩
  · exact ⟨hw, gtbl_good hw⟩

/-- behind a call, its own world whole -/
theorem E_goon {p : Program} {lch : Launch} {e : Env} {R : Room} {s : State} {m : MethodId} {args : Array Value} {below : List Frame} {meth : Method} {c : Code} {H : Heap} {locs : List Loc} {cells slots pc : Nat} {ad : Nat → Nat} {D : va_G} {cI cZ : ClassId} {A : Nat → Prop} {H0 : Heap} {Qm : State → Prop} {ls : Array Slot} {Y : MY} {hp : HP} {a : Array Value} {st0 rest : List Value} {Q1 : Option Value → HP → Prop}
    (hr : va_Run p lch e R s m args below meth c H locs cells slots 0 0 (F0 m pc ls st0) rest (QcE D cI cZ ad hp H.size Q1 a) (va_A (mkW ad cI cZ hp) H.size)) (hW : WLD Y ad D cI cZ A H0 s hp H locs)
    (kk : ∀ (v : Option Value) (hp' : HP) (H1 : Heap) (locs1 : List Loc), Q1 v hp' → WLD Y ad D cI cZ A H0 s hp' H1 locs1 → W p lch e R s m args below meth c H1 locs1 cells slots Qm (F0 m (pc + 3) ls ((v.map (cv ad)).toList ++ rest))) : W p lch e R s m args below meth c H locs cells slots Qm (F0 m pc ls st0) := by
  obtain ⟨hK, hP, hD, hS, hA, hX⟩ := hW
  intro T hT X
  obtain ⟨v, st₀, t, T', L, h0, X', hL, e1, e2, ⟨⟨v', hp', hv, hq, hp1⟩, hz, hk⟩, st⟩ := hr T hT X
  cases hv
  rw [h0] at hz hk
  have hf : ∀ q, va_A (mkW ad cI cZ hp) H.size q → A q := by
    intro q h
    rcases h with ⟨k, e', h⟩ | h
    · exact hD.2 k _ h
    · exact hA q (Nat.le_trans hS.1 h)
  obtain ⟨t2, a1, b1⟩ := kk v' hp' T'.heap (locs ++ L) hq ⟨hK, by rw [e1]; exact hp1, mkW_D hD, ⟨Nat.le_trans hS.1 (by rw [e1]; exact hz), fun q h1 h2 => by rw [e1, hk q (Nat.lt_of_lt_of_le h1 hS.1) (fun z => h2 (hf q z))]; exact hS.2.1 q h1 h2, fun q hq => by
      rcases List.mem_append.mp hq with h | h
      · exact hS.2.2 q h
      · exact hf _ (hL q h)⟩, hA, hX⟩ T' rfl X'
  exact ⟨t2, st t2 a1, b1⟩

set_option maxHeartbeats 1000000 in
theorem E_callS {Y Y' : MY} {d pc n index : Nat} {l l' st As : List Value} {hp : HP} {Q Q' : Option Value → HP → Prop} {y : MethodName}  (hd : decode Y.2.1 pc = .ok (.invokestatic index, 3)) (hlk : Cond.methodLink Y.1 index y ∈ gtbl) (hstat : Cond.static y ∈ gtbl) (hM : MTH y Y' n) (hn : As.length = n) (hent : ent Y'.2.2.1 As = l') (hfit : (lg_sl As).length ≤ Y'.2.2.1) (hCT : E Y' d 0 l' [] hp Q') (hroom : (st.map fun v => v.category).sum ≤ 8) (kk : ∀ v hp', Q' v hp' → E Y (d + 1) (pc + 3) l (v.toList ++ st) hp' Q) : E Y (d + 1) pc l (As.reverse ++ st) hp Q := by
  intro p lch e R s m args below meth c H locs cells slots ad D cI cZ A H0 Qm ls hC hW hl hR
  subst hent
  obtain ⟨hini, hcode, hdd, hpl, hY1, hsc, hml⟩ := id hM
  have hMet := met_of_E (l := lch) (y := y) hpl hY1 hsc hfit hCT D cI cZ ad H.size
  have hts : ∀ w ∈ gtbl, w.before args s = true := hC.2.2.2.2.2.2.1
  have hRm : (rmd d).frames + 1 ≤ R.frames ∧ 8 + (Y'.2.2.1 + 11) + (rmd d).locals ≤ R.locals := by
    have h1 := hC.2.2.2.2.2.2.2.2.1
    have h2 := hC.2.2.2.2.2.2.2.2.2.1
    simp only [rmd]
    omega
  have hBl : PreS s H (va_Pc ((As).map (cv ad)) (BW D cI cZ ad hp H.size)) ((As).map (cv ad)) := ⟨BW_blind, fun U hU hWm => ⟨rfl, by rw [hU], by rw [hU]; exact hW.2.1, va_K.moved hWm.alike hW.1, hW.2.2.1.weaken (fun _ _ _ _ => trivial), fun q hq => va_Nw.warmM hWm (hC.2.2.2.2.2.2.2.1 q hq)⟩⟩
  have hSt : (((As.reverse ++ st) : List Value).map (cv ad)) = (As.map (cv ad)).reverse ++ st.map (cv ad) := by simp [cv]
  have hfx : CallFix p m c Y.2.1 Y.2.2.1 s args gtbl Y.1 := ⟨hC.1, hC.2.1, hC.2.2.1, hC.2.2.2.2.2.1, hts⟩
  have hcs : cells + 0 ≤ R.cells ∧ slots + 0 ≤ R.slots := ⟨hC.2.2.2.2.2.2.2.2.2.2.1, hC.2.2.2.2.2.2.2.2.2.2.2⟩
  have hrm : ((st.map (cv ad)).map fun v => v.category).sum ≤ 8 := by rw [sum_cat]; exact hroom
  have hRun := va_runS (l := lch) (e := e) (H := H) (below := below) (meth := meth) (locs := locs) (cells := cells) (slots := slots) (As := As.map (cv ad)) (rest := st.map (cv ad)) (g := F0 m pc ls ((As.reverse ++ st).map (cv ad))) (mc := 0) (ms := 0) hfx hMet ⟨callB_of n hts (good_wsd hM) rfl rfl rfl (hts _ hini) (hts _ hlk) hdd hRm, hts _ hstat⟩ hBl rfl (by rw [List.length_map]; exact hn) hl.1 hSt (lv_room hrm) hd hcs
  refine E_goon (rest := st.map (cv ad)) (a := ((As).map (cv ad)).toArray) hRun hW (fun v hp' H1 locs1 hq hW1 => ?_)
  have := kk v hp' hq p lch e R s m args below meth c H1 locs1 cells slots ad D cI cZ A H0 Qm ls hC hW1 hl hR
  cases v <;> exact this

set_option maxHeartbeats 1000000 in
theorem E_callN {Y Y' : MY} {d pc n index : Nat} {l l' st As : List Value} {hp : HP} {Q Q' : Option Value → HP → Prop} {y : MethodName}  (hd : decode Y.2.1 pc = .ok (.invokestatic index, 3)) {host : String} (hlk : (Y.1, index, y, host) ∈ nests) (hstat : Cond.static y ∈ gtbl) (hM : MTH y Y' n) (hn : As.length = n) (hent : ent Y'.2.2.1 As = l') (hfit : (lg_sl As).length ≤ Y'.2.2.1) (hCT : E Y' d 0 l' [] hp Q') (hroom : (st.map fun v => v.category).sum ≤ 8) (kk : ∀ v hp', Q' v hp' → E Y (d + 1) (pc + 3) l (v.toList ++ st) hp' Q) : E Y (d + 1) pc l (As.reverse ++ st) hp Q := by
  intro p lch e R s m args below meth c H locs cells slots ad D cI cZ A H0 Qm ls hC hW hl hR
  subst hent
  obtain ⟨hini, hcode, hdd, hpl, hY1, hsc, hml⟩ := id hM
  have hMet := met_of_E (l := lch) (y := y) hpl hY1 hsc hfit hCT D cI cZ ad H.size
  have hts : ∀ w ∈ gtbl, w.before args s = true := hC.2.2.2.2.2.2.1
  have hRm : (rmd d).frames + 1 ≤ R.frames ∧ 8 + (Y'.2.2.1 + 11) + (rmd d).locals ≤ R.locals := by
    have h1 := hC.2.2.2.2.2.2.2.2.1
    have h2 := hC.2.2.2.2.2.2.2.2.2.1
    simp only [rmd]
    omega
  have hBl : PreS s H (va_Pc ((As).map (cv ad)) (BW D cI cZ ad hp H.size)) ((As).map (cv ad)) := ⟨BW_blind, fun U hU hWm => ⟨rfl, by rw [hU], by rw [hU]; exact hW.2.1, va_K.moved hWm.alike hW.1, hW.2.2.1.weaken (fun _ _ _ _ => trivial), fun q hq => va_Nw.warmM hWm (hC.2.2.2.2.2.2.2.1 q hq)⟩⟩
  have hSt : (((As.reverse ++ st) : List Value).map (cv ad)) = (As.map (cv ad)).reverse ++ st.map (cv ad) := by simp [cv]
  have hfx : CallFix p m c Y.2.1 Y.2.2.1 s args gtbl Y.1 := ⟨hC.1, hC.2.1, hC.2.2.1, hC.2.2.2.2.2.1, hts⟩
  have hcs : cells + 0 ≤ R.cells ∧ slots + 0 ≤ R.slots := ⟨hC.2.2.2.2.2.2.2.2.2.2.1, hC.2.2.2.2.2.2.2.2.2.2.2⟩
  have hrm : ((st.map (cv ad)).map fun v => v.category).sum ≤ 8 := by rw [sum_cat]; exact hroom
  have hRun := va_runSN (l := lch) (e := e) (H := H) (below := below) (meth := meth) (locs := locs) (cells := cells) (slots := slots) (As := As.map (cv ad)) (rest := st.map (cv ad)) (g := F0 m pc ls ((As.reverse ++ st).map (cv ad))) (mc := 0) (ms := 0) hfx hMet ⟨va_cnB n hts (good_wsd hM) rfl rfl rfl (hC.2.2.2.2.2.2.2.1 _ hlk) (hts _ hini) hdd hRm, hts _ hstat, trivial⟩ hBl rfl (by rw [List.length_map]; exact hn) hl.1 hSt (lv_room hrm) hd hcs
  refine E_goon (rest := st.map (cv ad)) (a := ((As).map (cv ad)).toArray) hRun hW (fun v hp' H1 locs1 hq hW1 => ?_)
  have := kk v hp' hq p lch e R s m args below meth c H1 locs1 cells slots ad D cI cZ A H0 Qm ls hC hW1 hl hR
  cases v <;> exact this

set_option maxHeartbeats 1000000 in
theorem E_callV {Y Y' : MY} {d pc n index : Nat} {l l' st As : List Value} {hp : HP} {Q Q' : Option Value → HP → Prop} {y : MethodName} {a ci N : Nat} {fs : List Value} {T : u_T} (hd : decode Y.2.1 pc = .ok (.invokevirtual index, 3)) (hlk : Cond.methodLink Y.1 index y ∈ gtbl) (hinst : Cond.instanceMethod y ∈ gtbl) (hsel : Cond.selects y.cls y y ∈ gtbl) (ha : LV a) (hk : hp a = .inr (ci, fs)) (hcl : vwCl[ci]? = some (y.cls, T, N)) (hM : MTH y Y' n) (hn : As.length = n) (hent : ent Y'.2.2.1 (Value.ref a :: As) = l') (hfit : (lg_sl (Value.ref a :: As)).length ≤ Y'.2.2.1) (hCT : E Y' d 0 l' [] hp Q') (hroom : (st.map fun v => v.category).sum ≤ 8) (kk : ∀ v hp', Q' v hp' → E Y (d + 1) (pc + 3) l (v.toList ++ st) hp' Q) : E Y (d + 1) pc l (As.reverse ++ Value.ref a :: st) hp Q := by
  intro p lch e R s m args below meth c H locs cells slots ad D cI cZ A H0 Qm ls hC hW hl hR
  subst hent
  obtain ⟨hini, hcode, hdd, hpl, hY1, hsc, hml⟩ := id hM
  have hMet := met_of_E (l := lch) (y := y) hpl hY1 hsc hfit hCT D cI cZ ad H.size
  have hts : ∀ w ∈ gtbl, w.before args s = true := hC.2.2.2.2.2.2.1
  have hRm : (rmd d).frames + 1 ≤ R.frames ∧ 8 + (Y'.2.2.1 + 11) + (rmd d).locals ≤ R.locals := by
    have h1 := hC.2.2.2.2.2.2.2.2.1
    have h2 := hC.2.2.2.2.2.2.2.2.2.1
    simp only [rmd]
    omega
  have hBl : PreS s H (va_Pc (((Value.ref a :: As)).map (cv ad)) (BW D cI cZ ad hp H.size)) (((Value.ref a :: As)).map (cv ad)) := ⟨BW_blind, fun U hU hWm => ⟨rfl, by rw [hU], by rw [hU]; exact hW.2.1, va_K.moved hWm.alike hW.1, hW.2.2.1.weaken (fun _ _ _ _ => trivial), fun q hq => va_Nw.warmM hWm (hC.2.2.2.2.2.2.2.1 q hq)⟩⟩
  have hSt : (((As.reverse ++ Value.ref a :: st) : List Value).map (cv ad)) = (As.map (cv ad)).reverse ++ Value.ref (ad a) :: st.map (cv ad) := by simp [cv]
  have hfx : CallFix p m c Y.2.1 Y.2.2.1 s args gtbl Y.1 := ⟨hC.1, hC.2.1, hC.2.2.1, hC.2.2.2.2.2.1, hts⟩
  have hcs : cells + 0 ≤ R.cells ∧ slots + 0 ≤ R.slots := ⟨hC.2.2.2.2.2.2.2.2.2.2.1, hC.2.2.2.2.2.2.2.2.2.2.2⟩
  have hrm : ((st.map (cv ad)).map fun v => v.category).sum ≤ 8 := by rw [sum_cat]; exact hroom
  have hPV : PreV s H y.cls (ad a) (va_Pc ((Value.ref a :: As).map (cv ad)) (BW D cI cZ ad hp H.size)) (As.map (cv ad)) := ⟨hBl.1, va_recv hW.1 hW.2.1 (ci := ci) (q0 := wpos a) (fs := fs.map (cv ad)) hcl (by rw [mkW_get ha, hk]; rfl), hBl.2⟩
  have hRun := va_runV (l := lch) (e := e) (H := H) (below := below) (meth := meth) (locs := locs) (cells := cells) (slots := slots) (C := y.cls) (b := ad a) (As := As.map (cv ad)) (rest := st.map (cv ad)) (g := F0 m pc ls ((As.reverse ++ Value.ref a :: st).map (cv ad))) (mc := 0) (ms := 0) hfx hMet ⟨callB_of n hts (good_wsd hM) rfl rfl rfl (hts _ hini) (hts _ hlk) hdd hRm, hts _ hinst, hts _ hsel⟩ hPV rfl (by rw [List.length_map]; exact hn) hl.1 hSt (lv_room hrm) hd hcs
  refine E_goon (rest := st.map (cv ad)) (a := (((Value.ref a :: As)).map (cv ad)).toArray) hRun hW (fun v hp' H1 locs1 hq hW1 => ?_)
  have := kk v hp' hq p lch e R s m args below meth c H1 locs1 cells slots ad D cI cZ A H0 Qm ls hC hW1 hl hR
  cases v <;> exact this
end
section
theorem dX0_init_0 : decode cX0_init 0 = .ok (.aload_n 0, 1) := by decide +kernel
theorem dX0_init_1 : decode cX0_init 1 = .ok (.invokespecial 3, 3) := by decide +kernel
theorem dX0_init_4 : decode cX0_init 4 = .ok (.aload_n 0, 1) := by decide +kernel
theorem dX0_init_5 : decode cX0_init 5 = .ok (.bipush 6, 2) := by decide +kernel
theorem dX0_init_7 : decode cX0_init 7 = .ok (.newarray .int, 2) := by decide +kernel
theorem dX0_init_9 : decode cX0_init 9 = .ok (.putfield 9, 3) := by decide +kernel
theorem dX0_init_12 : decode cX0_init 12 = .ok (.aload_n 0, 1) := by decide +kernel
theorem dX0_init_13 : decode cX0_init 13 = .ok (.bipush 6, 2) := by decide +kernel
theorem dX0_init_15 : decode cX0_init 15 = .ok (.newarray .int, 2) := by decide +kernel
theorem dX0_init_17 : decode cX0_init 17 = .ok (.putfield 15, 3) := by decide +kernel
theorem dX0_init_20 : decode cX0_init 20 = .ok (.aload_n 0, 1) := by decide +kernel
theorem dX0_init_21 : decode cX0_init 21 = .ok (.bipush 6, 2) := by decide +kernel
theorem dX0_init_23 : decode cX0_init 23 = .ok (.newarray .int, 2) := by decide +kernel
theorem dX0_init_25 : decode cX0_init 25 = .ok (.putfield 18, 3) := by decide +kernel
theorem dX0_init_28 : decode cX0_init 28 = .ok (.iconst 0, 1) := by decide +kernel
theorem dX0_init_29 : decode cX0_init 29 = .ok (.istore_n 1, 1) := by decide +kernel
theorem dX0_init_30 : decode cX0_init 30 = .ok (.iload_n 1, 1) := by decide +kernel
theorem dX0_init_31 : decode cX0_init 31 = .ok (.bipush 6, 2) := by decide +kernel
theorem dX0_init_33 : decode cX0_init 33 = .ok (.if_icmp .ge 24, 3) := by decide +kernel
theorem dX0_init_36 : decode cX0_init 36 = .ok (.aload_n 0, 1) := by decide +kernel
theorem dX0_init_37 : decode cX0_init 37 = .ok (.getfield 9, 3) := by decide +kernel
theorem dX0_init_40 : decode cX0_init 40 = .ok (.iload_n 1, 1) := by decide +kernel
theorem dX0_init_41 : decode cX0_init 41 = .ok (.bipush (-6), 2) := by decide +kernel
theorem dX0_init_43 : decode cX0_init 43 = .ok (.iastore, 1) := by decide +kernel
theorem dX0_init_44 : decode cX0_init 44 = .ok (.aload_n 0, 1) := by decide +kernel
theorem dX0_init_45 : decode cX0_init 45 = .ok (.getfield 18, 3) := by decide +kernel
theorem dX0_init_48 : decode cX0_init 48 = .ok (.iload_n 1, 1) := by decide +kernel
theorem dX0_init_49 : decode cX0_init 49 = .ok (.iconst 5, 1) := by decide +kernel
theorem dX0_init_50 : decode cX0_init 50 = .ok (.iastore, 1) := by decide +kernel
theorem dX0_init_51 : decode cX0_init 51 = .ok (.iinc 1 1, 3) := by decide +kernel
theorem dX0_init_54 : decode cX0_init 54 = .ok (.goto (-24), 3) := by decide +kernel
theorem dX0_init_57 : decode cX0_init 57 = .ok (.aload_n 0, 1) := by decide +kernel
theorem dX0_init_58 : decode cX0_init 58 = .ok (.iconst 2, 1) := by decide +kernel
theorem dX0_init_59 : decode cX0_init 59 = .ok (.putfield 21, 3) := by decide +kernel
theorem dX0_init_62 : decode cX0_init 62 = .ok (.return_, 1) := by decide +kernel
theorem dX0_copyFrom_0 : decode cX0_copyFrom 0 = .ok (.iconst 0, 1) := by decide +kernel
theorem dX0_copyFrom_1 : decode cX0_copyFrom 1 = .ok (.istore_n 2, 1) := by decide +kernel
theorem dX0_copyFrom_2 : decode cX0_copyFrom 2 = .ok (.iload_n 2, 1) := by decide +kernel
theorem dX0_copyFrom_3 : decode cX0_copyFrom 3 = .ok (.bipush 6, 2) := by decide +kernel
theorem dX0_copyFrom_5 : decode cX0_copyFrom 5 = .ok (.if_icmp .ge 45, 3) := by decide +kernel
theorem dX0_copyFrom_8 : decode cX0_copyFrom 8 = .ok (.aload_n 0, 1) := by decide +kernel
theorem dX0_copyFrom_9 : decode cX0_copyFrom 9 = .ok (.getfield 9, 3) := by decide +kernel
theorem dX0_copyFrom_12 : decode cX0_copyFrom 12 = .ok (.iload_n 2, 1) := by decide +kernel
theorem dX0_copyFrom_13 : decode cX0_copyFrom 13 = .ok (.aload_n 1, 1) := by decide +kernel
theorem dX0_copyFrom_14 : decode cX0_copyFrom 14 = .ok (.getfield 9, 3) := by decide +kernel
theorem dX0_copyFrom_17 : decode cX0_copyFrom 17 = .ok (.iload_n 2, 1) := by decide +kernel
theorem dX0_copyFrom_18 : decode cX0_copyFrom 18 = .ok (.iaload, 1) := by decide +kernel
theorem dX0_copyFrom_19 : decode cX0_copyFrom 19 = .ok (.iastore, 1) := by decide +kernel
theorem dX0_copyFrom_20 : decode cX0_copyFrom 20 = .ok (.aload_n 0, 1) := by decide +kernel
theorem dX0_copyFrom_21 : decode cX0_copyFrom 21 = .ok (.getfield 15, 3) := by decide +kernel
theorem dX0_copyFrom_24 : decode cX0_copyFrom 24 = .ok (.iload_n 2, 1) := by decide +kernel
theorem dX0_copyFrom_25 : decode cX0_copyFrom 25 = .ok (.aload_n 1, 1) := by decide +kernel
theorem dX0_copyFrom_26 : decode cX0_copyFrom 26 = .ok (.getfield 15, 3) := by decide +kernel
theorem dX0_copyFrom_29 : decode cX0_copyFrom 29 = .ok (.iload_n 2, 1) := by decide +kernel
theorem dX0_copyFrom_30 : decode cX0_copyFrom 30 = .ok (.iaload, 1) := by decide +kernel
theorem dX0_copyFrom_31 : decode cX0_copyFrom 31 = .ok (.iastore, 1) := by decide +kernel
theorem dX0_copyFrom_32 : decode cX0_copyFrom 32 = .ok (.aload_n 0, 1) := by decide +kernel
theorem dX0_copyFrom_33 : decode cX0_copyFrom 33 = .ok (.getfield 18, 3) := by decide +kernel
theorem dX0_copyFrom_36 : decode cX0_copyFrom 36 = .ok (.iload_n 2, 1) := by decide +kernel
theorem dX0_copyFrom_37 : decode cX0_copyFrom 37 = .ok (.aload_n 1, 1) := by decide +kernel
theorem dX0_copyFrom_38 : decode cX0_copyFrom 38 = .ok (.getfield 18, 3) := by decide +kernel
theorem dX0_copyFrom_41 : decode cX0_copyFrom 41 = .ok (.iload_n 2, 1) := by decide +kernel
theorem dX0_copyFrom_42 : decode cX0_copyFrom 42 = .ok (.iaload, 1) := by decide +kernel
theorem dX0_copyFrom_43 : decode cX0_copyFrom 43 = .ok (.iastore, 1) := by decide +kernel
theorem dX0_copyFrom_44 : decode cX0_copyFrom 44 = .ok (.iinc 2 1, 3) := by decide +kernel
theorem dX0_copyFrom_47 : decode cX0_copyFrom 47 = .ok (.goto (-45), 3) := by decide +kernel
theorem dX0_copyFrom_50 : decode cX0_copyFrom 50 = .ok (.aload_n 0, 1) := by decide +kernel
theorem dX0_copyFrom_51 : decode cX0_copyFrom 51 = .ok (.aload_n 1, 1) := by decide +kernel
theorem dX0_copyFrom_52 : decode cX0_copyFrom 52 = .ok (.getfield 25, 3) := by decide +kernel
theorem dX0_copyFrom_55 : decode cX0_copyFrom 55 = .ok (.putfield 25, 3) := by decide +kernel
theorem dX0_copyFrom_58 : decode cX0_copyFrom 58 = .ok (.aload_n 0, 1) := by decide +kernel
theorem dX0_copyFrom_59 : decode cX0_copyFrom 59 = .ok (.aload_n 1, 1) := by decide +kernel
theorem dX0_copyFrom_60 : decode cX0_copyFrom 60 = .ok (.getfield 28, 3) := by decide +kernel
theorem dX0_copyFrom_63 : decode cX0_copyFrom 63 = .ok (.putfield 28, 3) := by decide +kernel
theorem dX0_copyFrom_66 : decode cX0_copyFrom 66 = .ok (.aload_n 0, 1) := by decide +kernel
theorem dX0_copyFrom_67 : decode cX0_copyFrom 67 = .ok (.aload_n 1, 1) := by decide +kernel
theorem dX0_copyFrom_68 : decode cX0_copyFrom 68 = .ok (.getfield 31, 3) := by decide +kernel
theorem dX0_copyFrom_71 : decode cX0_copyFrom 71 = .ok (.putfield 31, 3) := by decide +kernel
theorem dX0_copyFrom_74 : decode cX0_copyFrom 74 = .ok (.aload_n 0, 1) := by decide +kernel
theorem dX0_copyFrom_75 : decode cX0_copyFrom 75 = .ok (.aload_n 1, 1) := by decide +kernel
theorem dX0_copyFrom_76 : decode cX0_copyFrom 76 = .ok (.getfield 21, 3) := by decide +kernel
theorem dX0_copyFrom_79 : decode cX0_copyFrom 79 = .ok (.putfield 21, 3) := by decide +kernel
theorem dX0_copyFrom_82 : decode cX0_copyFrom 82 = .ok (.aload_n 0, 1) := by decide +kernel
theorem dX0_copyFrom_83 : decode cX0_copyFrom 83 = .ok (.aload_n 1, 1) := by decide +kernel
theorem dX0_copyFrom_84 : decode cX0_copyFrom 84 = .ok (.getfield 34, 3) := by decide +kernel
theorem dX0_copyFrom_87 : decode cX0_copyFrom 87 = .ok (.putfield 34, 3) := by decide +kernel
theorem dX0_copyFrom_90 : decode cX0_copyFrom 90 = .ok (.return_, 1) := by decide +kernel
theorem dX0_put_0 : decode cX0_put 0 = .ok (.aload_n 0, 1) := by decide +kernel
theorem dX0_put_1 : decode cX0_put 1 = .ok (.getfield 9, 3) := by decide +kernel
theorem dX0_put_4 : decode cX0_put 4 = .ok (.iload_n 1, 1) := by decide +kernel
theorem dX0_put_5 : decode cX0_put 5 = .ok (.iload_n 2, 1) := by decide +kernel
theorem dX0_put_6 : decode cX0_put 6 = .ok (.iastore, 1) := by decide +kernel
theorem dX0_put_7 : decode cX0_put 7 = .ok (.aload_n 0, 1) := by decide +kernel
theorem dX0_put_8 : decode cX0_put 8 = .ok (.getfield 15, 3) := by decide +kernel
theorem dX0_put_11 : decode cX0_put 11 = .ok (.iload_n 1, 1) := by decide +kernel
theorem dX0_put_12 : decode cX0_put 12 = .ok (.iload_n 3, 1) := by decide +kernel
theorem dX0_put_13 : decode cX0_put 13 = .ok (.iastore, 1) := by decide +kernel
theorem dX0_put_14 : decode cX0_put 14 = .ok (.aload_n 0, 1) := by decide +kernel
theorem dX0_put_15 : decode cX0_put 15 = .ok (.getfield 18, 3) := by decide +kernel
theorem dX0_put_18 : decode cX0_put 18 = .ok (.iload_n 1, 1) := by decide +kernel
theorem dX0_put_19 : decode cX0_put 19 = .ok (.iload 4, 2) := by decide +kernel
theorem dX0_put_21 : decode cX0_put 21 = .ok (.iastore, 1) := by decide +kernel
theorem dX0_put_22 : decode cX0_put 22 = .ok (.aload_n 0, 1) := by decide +kernel
theorem dX0_put_23 : decode cX0_put 23 = .ok (.dup, 1) := by decide +kernel
theorem dX0_put_24 : decode cX0_put 24 = .ok (.getfield 28, 3) := by decide +kernel
theorem dX0_put_27 : decode cX0_put 27 = .ok (.iconst 1, 1) := by decide +kernel
theorem dX0_put_28 : decode cX0_put 28 = .ok (.iload_n 1, 1) := by decide +kernel
theorem dX0_put_29 : decode cX0_put 29 = .ok (.ishl, 1) := by decide +kernel
theorem dX0_put_30 : decode cX0_put 30 = .ok (.iconst (-1), 1) := by decide +kernel
theorem dX0_put_31 : decode cX0_put 31 = .ok (.ixor, 1) := by decide +kernel
theorem dX0_put_32 : decode cX0_put 32 = .ok (.iand, 1) := by decide +kernel
theorem dX0_put_33 : decode cX0_put 33 = .ok (.putfield 28, 3) := by decide +kernel
theorem dX0_put_36 : decode cX0_put 36 = .ok (.aload_n 0, 1) := by decide +kernel
theorem dX0_put_37 : decode cX0_put 37 = .ok (.dup, 1) := by decide +kernel
theorem dX0_put_38 : decode cX0_put 38 = .ok (.getfield 31, 3) := by decide +kernel
theorem dX0_put_41 : decode cX0_put 41 = .ok (.iconst 1, 1) := by decide +kernel
theorem dX0_put_42 : decode cX0_put 42 = .ok (.iload_n 1, 1) := by decide +kernel
theorem dX0_put_43 : decode cX0_put 43 = .ok (.ishl, 1) := by decide +kernel
theorem dX0_put_44 : decode cX0_put 44 = .ok (.iconst (-1), 1) := by decide +kernel
theorem dX0_put_45 : decode cX0_put 45 = .ok (.ixor, 1) := by decide +kernel
theorem dX0_put_46 : decode cX0_put 46 = .ok (.iand, 1) := by decide +kernel
theorem dX0_put_47 : decode cX0_put 47 = .ok (.putfield 31, 3) := by decide +kernel
theorem dX0_put_50 : decode cX0_put 50 = .ok (.return_, 1) := by decide +kernel
theorem dX0_isAlight_0 : decode cX0_isAlight 0 = .ok (.aload_n 0, 1) := by decide +kernel
theorem dX0_isAlight_1 : decode cX0_isAlight 1 = .ok (.getfield 15, 3) := by decide +kernel
theorem dX0_isAlight_4 : decode cX0_isAlight 4 = .ok (.iload_n 1, 1) := by decide +kernel
theorem dX0_isAlight_5 : decode cX0_isAlight 5 = .ok (.iaload, 1) := by decide +kernel
theorem dX0_isAlight_6 : decode cX0_isAlight 6 = .ok (.ifCond .le 7, 3) := by decide +kernel
theorem dX0_isAlight_9 : decode cX0_isAlight 9 = .ok (.iconst 1, 1) := by decide +kernel
theorem dX0_isAlight_10 : decode cX0_isAlight 10 = .ok (.goto 4, 3) := by decide +kernel
theorem dX0_isAlight_13 : decode cX0_isAlight 13 = .ok (.iconst 0, 1) := by decide +kernel
theorem dX0_isAlight_14 : decode cX0_isAlight 14 = .ok (.ireturn, 1) := by decide +kernel
theorem dX0_isTakenByAnother_0 : decode cX0_isTakenByAnother 0 = .ok (.iconst 0, 1) := by decide +kernel
theorem dX0_isTakenByAnother_1 : decode cX0_isTakenByAnother 1 = .ok (.istore_n 3, 1) := by decide +kernel
theorem dX0_isTakenByAnother_2 : decode cX0_isTakenByAnother 2 = .ok (.iload_n 3, 1) := by decide +kernel
theorem dX0_isTakenByAnother_3 : decode cX0_isTakenByAnother 3 = .ok (.bipush 6, 2) := by decide +kernel
theorem dX0_isTakenByAnother_5 : decode cX0_isTakenByAnother 5 = .ok (.if_icmp .ge 26, 3) := by decide +kernel
theorem dX0_isTakenByAnother_8 : decode cX0_isTakenByAnother 8 = .ok (.iload_n 3, 1) := by decide +kernel
theorem dX0_isTakenByAnother_9 : decode cX0_isTakenByAnother 9 = .ok (.iload_n 2, 1) := by decide +kernel
theorem dX0_isTakenByAnother_10 : decode cX0_isTakenByAnother 10 = .ok (.if_icmp .eq 15, 3) := by decide +kernel
theorem dX0_isTakenByAnother_13 : decode cX0_isTakenByAnother 13 = .ok (.aload_n 0, 1) := by decide +kernel
theorem dX0_isTakenByAnother_14 : decode cX0_isTakenByAnother 14 = .ok (.getfield 9, 3) := by decide +kernel
theorem dX0_isTakenByAnother_17 : decode cX0_isTakenByAnother 17 = .ok (.iload_n 3, 1) := by decide +kernel
theorem dX0_isTakenByAnother_18 : decode cX0_isTakenByAnother 18 = .ok (.iaload, 1) := by decide +kernel
theorem dX0_isTakenByAnother_19 : decode cX0_isTakenByAnother 19 = .ok (.iload_n 1, 1) := by decide +kernel
theorem dX0_isTakenByAnother_20 : decode cX0_isTakenByAnother 20 = .ok (.if_icmp .ne 5, 3) := by decide +kernel
theorem dX0_isTakenByAnother_23 : decode cX0_isTakenByAnother 23 = .ok (.iconst 1, 1) := by decide +kernel
theorem dX0_isTakenByAnother_24 : decode cX0_isTakenByAnother 24 = .ok (.ireturn, 1) := by decide +kernel
theorem dX0_isTakenByAnother_25 : decode cX0_isTakenByAnother 25 = .ok (.iinc 3 1, 3) := by decide +kernel
theorem dX0_isTakenByAnother_28 : decode cX0_isTakenByAnother 28 = .ok (.goto (-26), 3) := by decide +kernel
theorem dX0_isTakenByAnother_31 : decode cX0_isTakenByAnother 31 = .ok (.iconst 0, 1) := by decide +kernel
theorem dX0_isTakenByAnother_32 : decode cX0_isTakenByAnother 32 = .ok (.ireturn, 1) := by decide +kernel
theorem dX0_heatOfAll_0 : decode cX0_heatOfAll 0 = .ok (.iconst 0, 1) := by decide +kernel
theorem dX0_heatOfAll_1 : decode cX0_heatOfAll 1 = .ok (.istore_n 1, 1) := by decide +kernel
theorem dX0_heatOfAll_2 : decode cX0_heatOfAll 2 = .ok (.iconst 0, 1) := by decide +kernel
theorem dX0_heatOfAll_3 : decode cX0_heatOfAll 3 = .ok (.istore_n 2, 1) := by decide +kernel
theorem dX0_heatOfAll_4 : decode cX0_heatOfAll 4 = .ok (.iload_n 2, 1) := by decide +kernel
theorem dX0_heatOfAll_5 : decode cX0_heatOfAll 5 = .ok (.bipush 6, 2) := by decide +kernel
theorem dX0_heatOfAll_7 : decode cX0_heatOfAll 7 = .ok (.if_icmp .ge 18, 3) := by decide +kernel
theorem dX0_heatOfAll_10 : decode cX0_heatOfAll 10 = .ok (.iload_n 1, 1) := by decide +kernel
theorem dX0_heatOfAll_11 : decode cX0_heatOfAll 11 = .ok (.aload_n 0, 1) := by decide +kernel
theorem dX0_heatOfAll_12 : decode cX0_heatOfAll 12 = .ok (.getfield 15, 3) := by decide +kernel
theorem dX0_heatOfAll_15 : decode cX0_heatOfAll 15 = .ok (.iload_n 2, 1) := by decide +kernel
theorem dX0_heatOfAll_16 : decode cX0_heatOfAll 16 = .ok (.iaload, 1) := by decide +kernel
theorem dX0_heatOfAll_17 : decode cX0_heatOfAll 17 = .ok (.iadd, 1) := by decide +kernel
theorem dX0_heatOfAll_18 : decode cX0_heatOfAll 18 = .ok (.istore_n 1, 1) := by decide +kernel
theorem dX0_heatOfAll_19 : decode cX0_heatOfAll 19 = .ok (.iinc 2 1, 3) := by decide +kernel
theorem dX0_heatOfAll_22 : decode cX0_heatOfAll 22 = .ok (.goto (-18), 3) := by decide +kernel
theorem dX0_heatOfAll_25 : decode cX0_heatOfAll 25 = .ok (.iload_n 1, 1) := by decide +kernel
theorem dX0_heatOfAll_26 : decode cX0_heatOfAll 26 = .ok (.ireturn, 1) := by decide +kernel
theorem dX0_areNear_0 : decode cX0_areNear 0 = .ok (.aload_n 0, 1) := by decide +kernel
theorem dX0_areNear_1 : decode cX0_areNear 1 = .ok (.getfield 9, 3) := by decide +kernel
theorem dX0_areNear_4 : decode cX0_areNear 4 = .ok (.iload_n 1, 1) := by decide +kernel
theorem dX0_areNear_5 : decode cX0_areNear 5 = .ok (.iaload, 1) := by decide +kernel
theorem dX0_areNear_6 : decode cX0_areNear 6 = .ok (.istore_n 3, 1) := by decide +kernel
theorem dX0_areNear_7 : decode cX0_areNear 7 = .ok (.aload_n 0, 1) := by decide +kernel
theorem dX0_areNear_8 : decode cX0_areNear 8 = .ok (.getfield 9, 3) := by decide +kernel
theorem dX0_areNear_11 : decode cX0_areNear 11 = .ok (.iload_n 2, 1) := by decide +kernel
theorem dX0_areNear_12 : decode cX0_areNear 12 = .ok (.iaload, 1) := by decide +kernel
theorem dX0_areNear_13 : decode cX0_areNear 13 = .ok (.istore 4, 2) := by decide +kernel
theorem dX0_areNear_15 : decode cX0_areNear 15 = .ok (.iload_n 1, 1) := by decide +kernel
theorem dX0_areNear_16 : decode cX0_areNear 16 = .ok (.iload_n 2, 1) := by decide +kernel
theorem dX0_areNear_17 : decode cX0_areNear 17 = .ok (.if_icmp .eq 16, 3) := by decide +kernel
theorem dX0_areNear_20 : decode cX0_areNear 20 = .ok (.iload_n 3, 1) := by decide +kernel
theorem dX0_areNear_21 : decode cX0_areNear 21 = .ok (.bipush (-6), 2) := by decide +kernel
theorem dX0_areNear_23 : decode cX0_areNear 23 = .ok (.if_icmp .eq 10, 3) := by decide +kernel
theorem dX0_areNear_26 : decode cX0_areNear 26 = .ok (.iload 4, 2) := by decide +kernel
theorem dX0_areNear_28 : decode cX0_areNear 28 = .ok (.bipush (-6), 2) := by decide +kernel
theorem dX0_areNear_30 : decode cX0_areNear 30 = .ok (.if_icmp .ne 5, 3) := by decide +kernel
theorem dX0_areNear_33 : decode cX0_areNear 33 = .ok (.iconst 0, 1) := by decide +kernel
theorem dX0_areNear_34 : decode cX0_areNear 34 = .ok (.ireturn, 1) := by decide +kernel
theorem dX0_areNear_35 : decode cX0_areNear 35 = .ok (.iload_n 3, 1) := by decide +kernel
theorem dX0_areNear_36 : decode cX0_areNear 36 = .ok (.iconst 5, 1) := by decide +kernel
theorem dX0_areNear_37 : decode cX0_areNear 37 = .ok (.idiv, 1) := by decide +kernel
theorem dX0_areNear_38 : decode cX0_areNear 38 = .ok (.iload 4, 2) := by decide +kernel
theorem dX0_areNear_40 : decode cX0_areNear 40 = .ok (.iconst 5, 1) := by decide +kernel
theorem dX0_areNear_41 : decode cX0_areNear 41 = .ok (.idiv, 1) := by decide +kernel
theorem dX0_areNear_42 : decode cX0_areNear 42 = .ok (.isub, 1) := by decide +kernel
theorem dX0_areNear_43 : decode cX0_areNear 43 = .ok (.invokestatic 37, 3) := by decide +kernel
theorem dX0_areNear_46 : decode cX0_areNear 46 = .ok (.istore 5, 2) := by decide +kernel
theorem dX0_areNear_48 : decode cX0_areNear 48 = .ok (.iload_n 3, 1) := by decide +kernel
theorem dX0_areNear_49 : decode cX0_areNear 49 = .ok (.iconst 5, 1) := by decide +kernel
theorem dX0_areNear_50 : decode cX0_areNear 50 = .ok (.irem, 1) := by decide +kernel
theorem dX0_areNear_51 : decode cX0_areNear 51 = .ok (.iload 4, 2) := by decide +kernel
theorem dX0_areNear_53 : decode cX0_areNear 53 = .ok (.iconst 5, 1) := by decide +kernel
theorem dX0_areNear_54 : decode cX0_areNear 54 = .ok (.irem, 1) := by decide +kernel
theorem dX0_areNear_55 : decode cX0_areNear 55 = .ok (.isub, 1) := by decide +kernel
theorem dX0_areNear_56 : decode cX0_areNear 56 = .ok (.invokestatic 37, 3) := by decide +kernel
theorem dX0_areNear_59 : decode cX0_areNear 59 = .ok (.istore 6, 2) := by decide +kernel
theorem dX0_areNear_61 : decode cX0_areNear 61 = .ok (.iload 5, 2) := by decide +kernel
theorem dX0_areNear_63 : decode cX0_areNear 63 = .ok (.iload 6, 2) := by decide +kernel
theorem dX0_areNear_65 : decode cX0_areNear 65 = .ok (.iadd, 1) := by decide +kernel
theorem dX0_areNear_66 : decode cX0_areNear 66 = .ok (.iconst 2, 1) := by decide +kernel
theorem dX0_areNear_67 : decode cX0_areNear 67 = .ok (.if_icmp .gt 7, 3) := by decide +kernel
theorem dX0_areNear_70 : decode cX0_areNear 70 = .ok (.iconst 1, 1) := by decide +kernel
theorem dX0_areNear_71 : decode cX0_areNear 71 = .ok (.goto 4, 3) := by decide +kernel
theorem dX0_areNear_74 : decode cX0_areNear 74 = .ok (.iconst 0, 1) := by decide +kernel
theorem dX0_areNear_75 : decode cX0_areNear 75 = .ok (.ireturn, 1) := by decide +kernel
theorem dX0_countNear_0 : decode cX0_countNear 0 = .ok (.iconst 0, 1) := by decide +kernel
theorem dX0_countNear_1 : decode cX0_countNear 1 = .ok (.istore_n 3, 1) := by decide +kernel
theorem dX0_countNear_2 : decode cX0_countNear 2 = .ok (.iconst 0, 1) := by decide +kernel
theorem dX0_countNear_3 : decode cX0_countNear 3 = .ok (.istore 4, 2) := by decide +kernel
theorem dX0_countNear_5 : decode cX0_countNear 5 = .ok (.iload 4, 2) := by decide +kernel
theorem dX0_countNear_7 : decode cX0_countNear 7 = .ok (.bipush 6, 2) := by decide +kernel
theorem dX0_countNear_9 : decode cX0_countNear 9 = .ok (.if_icmp .ge 31, 3) := by decide +kernel
theorem dX0_countNear_12 : decode cX0_countNear 12 = .ok (.iload_n 2, 1) := by decide +kernel
theorem dX0_countNear_13 : decode cX0_countNear 13 = .ok (.iload 4, 2) := by decide +kernel
theorem dX0_countNear_15 : decode cX0_countNear 15 = .ok (.invokestatic 43, 3) := by decide +kernel
theorem dX0_countNear_18 : decode cX0_countNear 18 = .ok (.ifCond .eq 16, 3) := by decide +kernel
theorem dX0_countNear_21 : decode cX0_countNear 21 = .ok (.aload_n 0, 1) := by decide +kernel
theorem dX0_countNear_22 : decode cX0_countNear 22 = .ok (.iload_n 1, 1) := by decide +kernel
theorem dX0_countNear_23 : decode cX0_countNear 23 = .ok (.iload 4, 2) := by decide +kernel
theorem dX0_countNear_25 : decode cX0_countNear 25 = .ok (.invokevirtual 47, 3) := by decide +kernel
theorem dX0_countNear_28 : decode cX0_countNear 28 = .ok (.ifCond .eq 6, 3) := by decide +kernel
theorem dX0_countNear_31 : decode cX0_countNear 31 = .ok (.iinc 3 1, 3) := by decide +kernel
theorem dX0_countNear_34 : decode cX0_countNear 34 = .ok (.iinc 4 1, 3) := by decide +kernel
theorem dX0_countNear_37 : decode cX0_countNear 37 = .ok (.goto (-32), 3) := by decide +kernel
theorem dX0_countNear_40 : decode cX0_countNear 40 = .ok (.iload_n 3, 1) := by decide +kernel
theorem dX0_countNear_41 : decode cX0_countNear 41 = .ok (.ireturn, 1) := by decide +kernel
theorem dX0_flaringBy_0 : decode cX0_flaringBy 0 = .ok (.iconst 1, 1) := by decide +kernel
theorem dX0_flaringBy_1 : decode cX0_flaringBy 1 = .ok (.iload_n 1, 1) := by decide +kernel
theorem dX0_flaringBy_2 : decode cX0_flaringBy 2 = .ok (.ishl, 1) := by decide +kernel
theorem dX0_flaringBy_3 : decode cX0_flaringBy 3 = .ok (.istore_n 3, 1) := by decide +kernel
theorem dX0_flaringBy_4 : decode cX0_flaringBy 4 = .ok (.iconst 0, 1) := by decide +kernel
theorem dX0_flaringBy_5 : decode cX0_flaringBy 5 = .ok (.istore 4, 2) := by decide +kernel
theorem dX0_flaringBy_7 : decode cX0_flaringBy 7 = .ok (.iload 4, 2) := by decide +kernel
theorem dX0_flaringBy_9 : decode cX0_flaringBy 9 = .ok (.bipush 6, 2) := by decide +kernel
theorem dX0_flaringBy_11 : decode cX0_flaringBy 11 = .ok (.if_icmp .ge 64, 3) := by decide +kernel
theorem dX0_flaringBy_14 : decode cX0_flaringBy 14 = .ok (.iload_n 3, 1) := by decide +kernel
theorem dX0_flaringBy_15 : decode cX0_flaringBy 15 = .ok (.istore 5, 2) := by decide +kernel
theorem dX0_flaringBy_17 : decode cX0_flaringBy 17 = .ok (.iconst 0, 1) := by decide +kernel
theorem dX0_flaringBy_18 : decode cX0_flaringBy 18 = .ok (.istore 6, 2) := by decide +kernel
theorem dX0_flaringBy_20 : decode cX0_flaringBy 20 = .ok (.iload 6, 2) := by decide +kernel
theorem dX0_flaringBy_22 : decode cX0_flaringBy 22 = .ok (.bipush 6, 2) := by decide +kernel
theorem dX0_flaringBy_24 : decode cX0_flaringBy 24 = .ok (.if_icmp .ge 36, 3) := by decide +kernel
theorem dX0_flaringBy_27 : decode cX0_flaringBy 27 = .ok (.aload_n 0, 1) := by decide +kernel
theorem dX0_flaringBy_28 : decode cX0_flaringBy 28 = .ok (.iload 6, 2) := by decide +kernel
theorem dX0_flaringBy_30 : decode cX0_flaringBy 30 = .ok (.iload_n 2, 1) := by decide +kernel
theorem dX0_flaringBy_31 : decode cX0_flaringBy 31 = .ok (.invokevirtual 50, 3) := by decide +kernel
theorem dX0_flaringBy_34 : decode cX0_flaringBy 34 = .ok (.ifCond .eq 20, 3) := by decide +kernel
theorem dX0_flaringBy_37 : decode cX0_flaringBy 37 = .ok (.aload_n 0, 1) := by decide +kernel
theorem dX0_flaringBy_38 : decode cX0_flaringBy 38 = .ok (.iload 6, 2) := by decide +kernel
theorem dX0_flaringBy_40 : decode cX0_flaringBy 40 = .ok (.iload_n 3, 1) := by decide +kernel
theorem dX0_flaringBy_41 : decode cX0_flaringBy 41 = .ok (.invokevirtual 53, 3) := by decide +kernel
theorem dX0_flaringBy_44 : decode cX0_flaringBy 44 = .ok (.ifCond .le 10, 3) := by decide +kernel
theorem dX0_flaringBy_47 : decode cX0_flaringBy 47 = .ok (.iload_n 3, 1) := by decide +kernel
theorem dX0_flaringBy_48 : decode cX0_flaringBy 48 = .ok (.iconst 1, 1) := by decide +kernel
theorem dX0_flaringBy_49 : decode cX0_flaringBy 49 = .ok (.iload 6, 2) := by decide +kernel
theorem dX0_flaringBy_51 : decode cX0_flaringBy 51 = .ok (.ishl, 1) := by decide +kernel
theorem dX0_flaringBy_52 : decode cX0_flaringBy 52 = .ok (.ior, 1) := by decide +kernel
theorem dX0_flaringBy_53 : decode cX0_flaringBy 53 = .ok (.istore_n 3, 1) := by decide +kernel
theorem dX0_flaringBy_54 : decode cX0_flaringBy 54 = .ok (.iinc 6 1, 3) := by decide +kernel
theorem dX0_flaringBy_57 : decode cX0_flaringBy 57 = .ok (.goto (-37), 3) := by decide +kernel
theorem dX0_flaringBy_60 : decode cX0_flaringBy 60 = .ok (.iload_n 3, 1) := by decide +kernel
theorem dX0_flaringBy_61 : decode cX0_flaringBy 61 = .ok (.iload 5, 2) := by decide +kernel
theorem dX0_flaringBy_63 : decode cX0_flaringBy 63 = .ok (.if_icmp .ne 6, 3) := by decide +kernel
theorem dX0_flaringBy_66 : decode cX0_flaringBy 66 = .ok (.goto 9, 3) := by decide +kernel
theorem dX0_flaringBy_69 : decode cX0_flaringBy 69 = .ok (.iinc 4 1, 3) := by decide +kernel
theorem dX0_flaringBy_72 : decode cX0_flaringBy 72 = .ok (.goto (-65), 3) := by decide +kernel
theorem dX0_flaringBy_75 : decode cX0_flaringBy 75 = .ok (.iload_n 3, 1) := by decide +kernel
theorem dX0_flaringBy_76 : decode cX0_flaringBy 76 = .ok (.ireturn, 1) := by decide +kernel
theorem dX0_canCatch_0 : decode cX0_canCatch 0 = .ok (.aload_n 0, 1) := by decide +kernel
theorem dX0_canCatch_1 : decode cX0_canCatch 1 = .ok (.iload_n 1, 1) := by decide +kernel
theorem dX0_canCatch_2 : decode cX0_canCatch 2 = .ok (.invokevirtual 57, 3) := by decide +kernel
theorem dX0_canCatch_5 : decode cX0_canCatch 5 = .ok (.ifCond .eq 25, 3) := by decide +kernel
theorem dX0_canCatch_8 : decode cX0_canCatch 8 = .ok (.aload_n 0, 1) := by decide +kernel
theorem dX0_canCatch_9 : decode cX0_canCatch 9 = .ok (.getfield 18, 3) := by decide +kernel
theorem dX0_canCatch_12 : decode cX0_canCatch 12 = .ok (.iload_n 1, 1) := by decide +kernel
theorem dX0_canCatch_13 : decode cX0_canCatch 13 = .ok (.iaload, 1) := by decide +kernel
theorem dX0_canCatch_14 : decode cX0_canCatch 14 = .ok (.iconst 2, 1) := by decide +kernel
theorem dX0_canCatch_15 : decode cX0_canCatch 15 = .ok (.if_icmp .gt 15, 3) := by decide +kernel
theorem dX0_canCatch_18 : decode cX0_canCatch 18 = .ok (.iload_n 2, 1) := by decide +kernel
theorem dX0_canCatch_19 : decode cX0_canCatch 19 = .ok (.iload_n 1, 1) := by decide +kernel
theorem dX0_canCatch_20 : decode cX0_canCatch 20 = .ok (.invokestatic 43, 3) := by decide +kernel
theorem dX0_canCatch_23 : decode cX0_canCatch 23 = .ok (.ifCond .ne 7, 3) := by decide +kernel
theorem dX0_canCatch_26 : decode cX0_canCatch 26 = .ok (.iconst 1, 1) := by decide +kernel
theorem dX0_canCatch_27 : decode cX0_canCatch 27 = .ok (.goto 4, 3) := by decide +kernel
theorem dX0_canCatch_30 : decode cX0_canCatch 30 = .ok (.iconst 0, 1) := by decide +kernel
theorem dX0_canCatch_31 : decode cX0_canCatch 31 = .ok (.ireturn, 1) := by decide +kernel
theorem dX0_reasonAgainst_0 : decode cX0_reasonAgainst 0 = .ok (.iload_n 1, 1) := by decide +kernel
theorem dX0_reasonAgainst_1 : decode cX0_reasonAgainst 1 = .ok (.iconst 5, 1) := by decide +kernel
theorem dX0_reasonAgainst_2 : decode cX0_reasonAgainst 2 = .ok (.if_icmp .ne 19, 3) := by decide +kernel
theorem dX0_reasonAgainst_5 : decode cX0_reasonAgainst 5 = .ok (.aload_n 0, 1) := by decide +kernel
theorem dX0_reasonAgainst_6 : decode cX0_reasonAgainst 6 = .ok (.getfield 34, 3) := by decide +kernel
theorem dX0_reasonAgainst_9 : decode cX0_reasonAgainst 9 = .ok (.bipush 99, 2) := by decide +kernel
theorem dX0_reasonAgainst_11 : decode cX0_reasonAgainst 11 = .ok (.if_icmp .lt 8, 3) := by decide +kernel
theorem dX0_reasonAgainst_14 : decode cX0_reasonAgainst 14 = .ok (.bipush 7, 2) := by decide +kernel
theorem dX0_reasonAgainst_16 : decode cX0_reasonAgainst 16 = .ok (.goto 4, 3) := by decide +kernel
theorem dX0_reasonAgainst_19 : decode cX0_reasonAgainst 19 = .ok (.iconst 0, 1) := by decide +kernel
theorem dX0_reasonAgainst_20 : decode cX0_reasonAgainst 20 = .ok (.ireturn, 1) := by decide +kernel
theorem dX0_reasonAgainst_21 : decode cX0_reasonAgainst 21 = .ok (.iload_n 1, 1) := by decide +kernel
theorem dX0_reasonAgainst_22 : decode cX0_reasonAgainst 22 = .ok (.ifCond .ne 30, 3) := by decide +kernel
theorem dX0_reasonAgainst_25 : decode cX0_reasonAgainst 25 = .ok (.aload_n 0, 1) := by decide +kernel
theorem dX0_reasonAgainst_26 : decode cX0_reasonAgainst 26 = .ok (.iload_n 3, 1) := by decide +kernel
theorem dX0_reasonAgainst_27 : decode cX0_reasonAgainst 27 = .ok (.iload_n 2, 1) := by decide +kernel
theorem dX0_reasonAgainst_28 : decode cX0_reasonAgainst 28 = .ok (.invokevirtual 61, 3) := by decide +kernel
theorem dX0_reasonAgainst_31 : decode cX0_reasonAgainst 31 = .ok (.ifCond .eq 7, 3) := by decide +kernel
theorem dX0_reasonAgainst_34 : decode cX0_reasonAgainst 34 = .ok (.iconst 2, 1) := by decide +kernel
theorem dX0_reasonAgainst_35 : decode cX0_reasonAgainst 35 = .ok (.goto 16, 3) := by decide +kernel
theorem dX0_reasonAgainst_38 : decode cX0_reasonAgainst 38 = .ok (.aload_n 0, 1) := by decide +kernel
theorem dX0_reasonAgainst_39 : decode cX0_reasonAgainst 39 = .ok (.iload_n 2, 1) := by decide +kernel
theorem dX0_reasonAgainst_40 : decode cX0_reasonAgainst 40 = .ok (.invokevirtual 57, 3) := by decide +kernel
theorem dX0_reasonAgainst_43 : decode cX0_reasonAgainst 43 = .ok (.ifCond .eq 7, 3) := by decide +kernel
theorem dX0_reasonAgainst_46 : decode cX0_reasonAgainst 46 = .ok (.iconst 3, 1) := by decide +kernel
theorem dX0_reasonAgainst_47 : decode cX0_reasonAgainst 47 = .ok (.goto 4, 3) := by decide +kernel
theorem dX0_reasonAgainst_50 : decode cX0_reasonAgainst 50 = .ok (.iconst 0, 1) := by decide +kernel
theorem dX0_reasonAgainst_51 : decode cX0_reasonAgainst 51 = .ok (.ireturn, 1) := by decide +kernel
theorem dX0_reasonAgainst_52 : decode cX0_reasonAgainst 52 = .ok (.aload_n 0, 1) := by decide +kernel
theorem dX0_reasonAgainst_53 : decode cX0_reasonAgainst 53 = .ok (.getfield 9, 3) := by decide +kernel
theorem dX0_reasonAgainst_56 : decode cX0_reasonAgainst 56 = .ok (.iload_n 2, 1) := by decide +kernel
theorem dX0_reasonAgainst_57 : decode cX0_reasonAgainst 57 = .ok (.iaload, 1) := by decide +kernel
theorem dX0_reasonAgainst_58 : decode cX0_reasonAgainst 58 = .ok (.bipush (-6), 2) := by decide +kernel
theorem dX0_reasonAgainst_60 : decode cX0_reasonAgainst 60 = .ok (.if_icmp .ne 5, 3) := by decide +kernel
theorem dX0_reasonAgainst_63 : decode cX0_reasonAgainst 63 = .ok (.iconst 1, 1) := by decide +kernel
theorem dX0_reasonAgainst_64 : decode cX0_reasonAgainst 64 = .ok (.ireturn, 1) := by decide +kernel
theorem dX0_reasonAgainst_65 : decode cX0_reasonAgainst 65 = .ok (.iload_n 1, 1) := by decide +kernel
theorem dX0_reasonAgainst_66 : decode cX0_reasonAgainst 66 = .ok (.tableswitch 87 1 3 #[26, 43, 58], 26) := by decide +kernel
theorem dX0_reasonAgainst_92 : decode cX0_reasonAgainst 92 = .ok (.aload_n 0, 1) := by decide +kernel
theorem dX0_reasonAgainst_93 : decode cX0_reasonAgainst 93 = .ok (.getfield 18, 3) := by decide +kernel
theorem dX0_reasonAgainst_96 : decode cX0_reasonAgainst 96 = .ok (.iload_n 2, 1) := by decide +kernel
theorem dX0_reasonAgainst_97 : decode cX0_reasonAgainst 97 = .ok (.iaload, 1) := by decide +kernel
theorem dX0_reasonAgainst_98 : decode cX0_reasonAgainst 98 = .ok (.bipush 9, 2) := by decide +kernel
theorem dX0_reasonAgainst_100 : decode cX0_reasonAgainst 100 = .ok (.if_icmp .lt 7, 3) := by decide +kernel
theorem dX0_reasonAgainst_103 : decode cX0_reasonAgainst 103 = .ok (.iconst 5, 1) := by decide +kernel
theorem dX0_reasonAgainst_104 : decode cX0_reasonAgainst 104 = .ok (.goto 4, 3) := by decide +kernel
theorem dX0_reasonAgainst_107 : decode cX0_reasonAgainst 107 = .ok (.iconst 0, 1) := by decide +kernel
theorem dX0_reasonAgainst_108 : decode cX0_reasonAgainst 108 = .ok (.ireturn, 1) := by decide +kernel
theorem dX0_reasonAgainst_109 : decode cX0_reasonAgainst 109 = .ok (.aload_n 0, 1) := by decide +kernel
theorem dX0_reasonAgainst_110 : decode cX0_reasonAgainst 110 = .ok (.getfield 18, 3) := by decide +kernel
theorem dX0_reasonAgainst_113 : decode cX0_reasonAgainst 113 = .ok (.iload_n 2, 1) := by decide +kernel
theorem dX0_reasonAgainst_114 : decode cX0_reasonAgainst 114 = .ok (.iaload, 1) := by decide +kernel
theorem dX0_reasonAgainst_115 : decode cX0_reasonAgainst 115 = .ok (.ifCond .gt 7, 3) := by decide +kernel
theorem dX0_reasonAgainst_118 : decode cX0_reasonAgainst 118 = .ok (.iconst 5, 1) := by decide +kernel
theorem dX0_reasonAgainst_119 : decode cX0_reasonAgainst 119 = .ok (.goto 4, 3) := by decide +kernel
theorem dX0_reasonAgainst_122 : decode cX0_reasonAgainst 122 = .ok (.iconst 0, 1) := by decide +kernel
theorem dX0_reasonAgainst_123 : decode cX0_reasonAgainst 123 = .ok (.ireturn, 1) := by decide +kernel
theorem dX0_reasonAgainst_124 : decode cX0_reasonAgainst 124 = .ok (.aload_n 0, 1) := by decide +kernel
theorem dX0_reasonAgainst_125 : decode cX0_reasonAgainst 125 = .ok (.iload_n 2, 1) := by decide +kernel
theorem dX0_reasonAgainst_126 : decode cX0_reasonAgainst 126 = .ok (.invokevirtual 57, 3) := by decide +kernel
theorem dX0_reasonAgainst_129 : decode cX0_reasonAgainst 129 = .ok (.ifCond .eq 7, 3) := by decide +kernel
theorem dX0_reasonAgainst_132 : decode cX0_reasonAgainst 132 = .ok (.iconst 3, 1) := by decide +kernel
theorem dX0_reasonAgainst_133 : decode cX0_reasonAgainst 133 = .ok (.goto 19, 3) := by decide +kernel
theorem dX0_reasonAgainst_136 : decode cX0_reasonAgainst 136 = .ok (.aload_n 0, 1) := by decide +kernel
theorem dX0_reasonAgainst_137 : decode cX0_reasonAgainst 137 = .ok (.getfield 28, 3) := by decide +kernel
theorem dX0_reasonAgainst_140 : decode cX0_reasonAgainst 140 = .ok (.iload_n 2, 1) := by decide +kernel
theorem dX0_reasonAgainst_141 : decode cX0_reasonAgainst 141 = .ok (.invokestatic 43, 3) := by decide +kernel
theorem dX0_reasonAgainst_144 : decode cX0_reasonAgainst 144 = .ok (.ifCond .eq 7, 3) := by decide +kernel
theorem dX0_reasonAgainst_147 : decode cX0_reasonAgainst 147 = .ok (.iconst 4, 1) := by decide +kernel
theorem dX0_reasonAgainst_148 : decode cX0_reasonAgainst 148 = .ok (.goto 4, 3) := by decide +kernel
theorem dX0_reasonAgainst_151 : decode cX0_reasonAgainst 151 = .ok (.iconst 0, 1) := by decide +kernel
theorem dX0_reasonAgainst_152 : decode cX0_reasonAgainst 152 = .ok (.ireturn, 1) := by decide +kernel
theorem dX0_reasonAgainst_153 : decode cX0_reasonAgainst 153 = .ok (.aload_n 0, 1) := by decide +kernel
theorem dX0_reasonAgainst_154 : decode cX0_reasonAgainst 154 = .ok (.getfield 31, 3) := by decide +kernel
theorem dX0_reasonAgainst_157 : decode cX0_reasonAgainst 157 = .ok (.iload_n 2, 1) := by decide +kernel
theorem dX0_reasonAgainst_158 : decode cX0_reasonAgainst 158 = .ok (.invokestatic 43, 3) := by decide +kernel
theorem dX0_reasonAgainst_161 : decode cX0_reasonAgainst 161 = .ok (.ifCond .ne 17, 3) := by decide +kernel
theorem dX0_reasonAgainst_164 : decode cX0_reasonAgainst 164 = .ok (.aload_n 0, 1) := by decide +kernel
theorem dX0_reasonAgainst_165 : decode cX0_reasonAgainst 165 = .ok (.getfield 31, 3) := by decide +kernel
theorem dX0_reasonAgainst_168 : decode cX0_reasonAgainst 168 = .ok (.invokestatic 64, 3) := by decide +kernel
theorem dX0_reasonAgainst_171 : decode cX0_reasonAgainst 171 = .ok (.aload_n 0, 1) := by decide +kernel
theorem dX0_reasonAgainst_172 : decode cX0_reasonAgainst 172 = .ok (.getfield 21, 3) := by decide +kernel
theorem dX0_reasonAgainst_175 : decode cX0_reasonAgainst 175 = .ok (.if_icmp .ge 7, 3) := by decide +kernel
theorem dX0_reasonAgainst_178 : decode cX0_reasonAgainst 178 = .ok (.iconst 0, 1) := by decide +kernel
theorem dX0_reasonAgainst_179 : decode cX0_reasonAgainst 179 = .ok (.goto 5, 3) := by decide +kernel
theorem dX0_reasonAgainst_182 : decode cX0_reasonAgainst 182 = .ok (.bipush 6, 2) := by decide +kernel
theorem dX0_reasonAgainst_184 : decode cX0_reasonAgainst 184 = .ok (.ireturn, 1) := by decide +kernel
theorem dX0_perform_0 : decode cX0_perform 0 = .ok (.iload_n 1, 1) := by decide +kernel
theorem dX0_perform_1 : decode cX0_perform 1 = .ok (.tableswitch 105 0 4 #[35, 58, 70, 82, 91], 35) := by decide +kernel
theorem dX0_perform_36 : decode cX0_perform 36 = .ok (.aload_n 0, 1) := by decide +kernel
theorem dX0_perform_37 : decode cX0_perform 37 = .ok (.getfield 9, 3) := by decide +kernel
theorem dX0_perform_40 : decode cX0_perform 40 = .ok (.iload_n 2, 1) := by decide +kernel
theorem dX0_perform_41 : decode cX0_perform 41 = .ok (.iload_n 3, 1) := by decide +kernel
theorem dX0_perform_42 : decode cX0_perform 42 = .ok (.iastore, 1) := by decide +kernel
theorem dX0_perform_43 : decode cX0_perform 43 = .ok (.aload_n 0, 1) := by decide +kernel
theorem dX0_perform_44 : decode cX0_perform 44 = .ok (.dup, 1) := by decide +kernel
theorem dX0_perform_45 : decode cX0_perform 45 = .ok (.getfield 28, 3) := by decide +kernel
theorem dX0_perform_48 : decode cX0_perform 48 = .ok (.iconst 1, 1) := by decide +kernel
theorem dX0_perform_49 : decode cX0_perform 49 = .ok (.iload_n 2, 1) := by decide +kernel
theorem dX0_perform_50 : decode cX0_perform 50 = .ok (.ishl, 1) := by decide +kernel
theorem dX0_perform_51 : decode cX0_perform 51 = .ok (.iconst (-1), 1) := by decide +kernel
theorem dX0_perform_52 : decode cX0_perform 52 = .ok (.ixor, 1) := by decide +kernel
theorem dX0_perform_53 : decode cX0_perform 53 = .ok (.iand, 1) := by decide +kernel
theorem dX0_perform_54 : decode cX0_perform 54 = .ok (.putfield 28, 3) := by decide +kernel
theorem dX0_perform_57 : decode cX0_perform 57 = .ok (.iconst 0, 1) := by decide +kernel
theorem dX0_perform_58 : decode cX0_perform 58 = .ok (.ireturn, 1) := by decide +kernel
theorem dX0_perform_59 : decode cX0_perform 59 = .ok (.aload_n 0, 1) := by decide +kernel
theorem dX0_perform_60 : decode cX0_perform 60 = .ok (.getfield 18, 3) := by decide +kernel
theorem dX0_perform_63 : decode cX0_perform 63 = .ok (.iload_n 2, 1) := by decide +kernel
theorem dX0_perform_64 : decode cX0_perform 64 = .ok (.dup2, 1) := by decide +kernel
theorem dX0_perform_65 : decode cX0_perform 65 = .ok (.iaload, 1) := by decide +kernel
theorem dX0_perform_66 : decode cX0_perform 66 = .ok (.iconst 1, 1) := by decide +kernel
theorem dX0_perform_67 : decode cX0_perform 67 = .ok (.iadd, 1) := by decide +kernel
theorem dX0_perform_68 : decode cX0_perform 68 = .ok (.iastore, 1) := by decide +kernel
theorem dX0_perform_69 : decode cX0_perform 69 = .ok (.iconst 0, 1) := by decide +kernel
theorem dX0_perform_70 : decode cX0_perform 70 = .ok (.ireturn, 1) := by decide +kernel
theorem dX0_perform_71 : decode cX0_perform 71 = .ok (.aload_n 0, 1) := by decide +kernel
theorem dX0_perform_72 : decode cX0_perform 72 = .ok (.getfield 18, 3) := by decide +kernel
theorem dX0_perform_75 : decode cX0_perform 75 = .ok (.iload_n 2, 1) := by decide +kernel
theorem dX0_perform_76 : decode cX0_perform 76 = .ok (.dup2, 1) := by decide +kernel
theorem dX0_perform_77 : decode cX0_perform 77 = .ok (.iaload, 1) := by decide +kernel
theorem dX0_perform_78 : decode cX0_perform 78 = .ok (.iconst 1, 1) := by decide +kernel
theorem dX0_perform_79 : decode cX0_perform 79 = .ok (.isub, 1) := by decide +kernel
theorem dX0_perform_80 : decode cX0_perform 80 = .ok (.iastore, 1) := by decide +kernel
theorem dX0_perform_81 : decode cX0_perform 81 = .ok (.iconst 0, 1) := by decide +kernel
theorem dX0_perform_82 : decode cX0_perform 82 = .ok (.ireturn, 1) := by decide +kernel
theorem dX0_perform_83 : decode cX0_perform 83 = .ok (.aload_n 0, 1) := by decide +kernel
theorem dX0_perform_84 : decode cX0_perform 84 = .ok (.getfield 15, 3) := by decide +kernel
theorem dX0_perform_87 : decode cX0_perform 87 = .ok (.iload_n 2, 1) := by decide +kernel
theorem dX0_perform_88 : decode cX0_perform 88 = .ok (.iconst 3, 1) := by decide +kernel
theorem dX0_perform_89 : decode cX0_perform 89 = .ok (.iastore, 1) := by decide +kernel
theorem dX0_perform_90 : decode cX0_perform 90 = .ok (.iconst 0, 1) := by decide +kernel
theorem dX0_perform_91 : decode cX0_perform 91 = .ok (.ireturn, 1) := by decide +kernel
theorem dX0_perform_92 : decode cX0_perform 92 = .ok (.aload_n 0, 1) := by decide +kernel
theorem dX0_perform_93 : decode cX0_perform 93 = .ok (.dup, 1) := by decide +kernel
theorem dX0_perform_94 : decode cX0_perform 94 = .ok (.getfield 31, 3) := by decide +kernel
theorem dX0_perform_97 : decode cX0_perform 97 = .ok (.iconst 1, 1) := by decide +kernel
theorem dX0_perform_98 : decode cX0_perform 98 = .ok (.iload_n 2, 1) := by decide +kernel
theorem dX0_perform_99 : decode cX0_perform 99 = .ok (.ishl, 1) := by decide +kernel
theorem dX0_perform_100 : decode cX0_perform 100 = .ok (.ixor, 1) := by decide +kernel
theorem dX0_perform_101 : decode cX0_perform 101 = .ok (.putfield 31, 3) := by decide +kernel
theorem dX0_perform_104 : decode cX0_perform 104 = .ok (.iconst 0, 1) := by decide +kernel
theorem dX0_perform_105 : decode cX0_perform 105 = .ok (.ireturn, 1) := by decide +kernel
theorem dX0_perform_106 : decode cX0_perform 106 = .ok (.aload_n 0, 1) := by decide +kernel
theorem dX0_perform_107 : decode cX0_perform 107 = .ok (.invokevirtual 69, 3) := by decide +kernel
theorem dX0_perform_110 : decode cX0_perform 110 = .ok (.ireturn, 1) := by decide +kernel
theorem dX0_passNight_0 : decode cX0_passNight 0 = .ok (.aload_n 0, 1) := by decide +kernel
theorem dX0_passNight_1 : decode cX0_passNight 1 = .ok (.dup, 1) := by decide +kernel
theorem dX0_passNight_2 : decode cX0_passNight 2 = .ok (.getfield 34, 3) := by decide +kernel
theorem dX0_passNight_5 : decode cX0_passNight 5 = .ok (.iconst 1, 1) := by decide +kernel
theorem dX0_passNight_6 : decode cX0_passNight 6 = .ok (.iadd, 1) := by decide +kernel
theorem dX0_passNight_7 : decode cX0_passNight 7 = .ok (.putfield 34, 3) := by decide +kernel
theorem dX0_passNight_10 : decode cX0_passNight 10 = .ok (.iconst 0, 1) := by decide +kernel
theorem dX0_passNight_11 : decode cX0_passNight 11 = .ok (.istore_n 1, 1) := by decide +kernel
theorem dX0_passNight_12 : decode cX0_passNight 12 = .ok (.iconst 0, 1) := by decide +kernel
theorem dX0_passNight_13 : decode cX0_passNight 13 = .ok (.istore_n 2, 1) := by decide +kernel
theorem dX0_passNight_14 : decode cX0_passNight 14 = .ok (.iload_n 2, 1) := by decide +kernel
theorem dX0_passNight_15 : decode cX0_passNight 15 = .ok (.bipush 6, 2) := by decide +kernel
theorem dX0_passNight_17 : decode cX0_passNight 17 = .ok (.if_icmp .ge 31, 3) := by decide +kernel
theorem dX0_passNight_20 : decode cX0_passNight 20 = .ok (.aload_n 0, 1) := by decide +kernel
theorem dX0_passNight_21 : decode cX0_passNight 21 = .ok (.iload_n 2, 1) := by decide +kernel
theorem dX0_passNight_22 : decode cX0_passNight 22 = .ok (.invokevirtual 57, 3) := by decide +kernel
theorem dX0_passNight_25 : decode cX0_passNight 25 = .ok (.ifCond .eq 17, 3) := by decide +kernel
theorem dX0_passNight_28 : decode cX0_passNight 28 = .ok (.aload_n 0, 1) := by decide +kernel
theorem dX0_passNight_29 : decode cX0_passNight 29 = .ok (.iload_n 2, 1) := by decide +kernel
theorem dX0_passNight_30 : decode cX0_passNight 30 = .ok (.invokevirtual 73, 3) := by decide +kernel
theorem dX0_passNight_33 : decode cX0_passNight 33 = .ok (.ifCond .eq 9, 3) := by decide +kernel
theorem dX0_passNight_36 : decode cX0_passNight 36 = .ok (.iload_n 1, 1) := by decide +kernel
theorem dX0_passNight_37 : decode cX0_passNight 37 = .ok (.iconst 1, 1) := by decide +kernel
theorem dX0_passNight_38 : decode cX0_passNight 38 = .ok (.iload_n 2, 1) := by decide +kernel
theorem dX0_passNight_39 : decode cX0_passNight 39 = .ok (.ishl, 1) := by decide +kernel
theorem dX0_passNight_40 : decode cX0_passNight 40 = .ok (.ior, 1) := by decide +kernel
theorem dX0_passNight_41 : decode cX0_passNight 41 = .ok (.istore_n 1, 1) := by decide +kernel
theorem dX0_passNight_42 : decode cX0_passNight 42 = .ok (.iinc 2 1, 3) := by decide +kernel
theorem dX0_passNight_45 : decode cX0_passNight 45 = .ok (.goto (-31), 3) := by decide +kernel
theorem dX0_passNight_48 : decode cX0_passNight 48 = .ok (.aload_n 0, 1) := by decide +kernel
theorem dX0_passNight_49 : decode cX0_passNight 49 = .ok (.dup, 1) := by decide +kernel
theorem dX0_passNight_50 : decode cX0_passNight 50 = .ok (.getfield 25, 3) := by decide +kernel
theorem dX0_passNight_53 : decode cX0_passNight 53 = .ok (.iload_n 1, 1) := by decide +kernel
theorem dX0_passNight_54 : decode cX0_passNight 54 = .ok (.ior, 1) := by decide +kernel
theorem dX0_passNight_55 : decode cX0_passNight 55 = .ok (.putfield 25, 3) := by decide +kernel
theorem dX0_passNight_58 : decode cX0_passNight 58 = .ok (.iconst 0, 1) := by decide +kernel
theorem dX0_passNight_59 : decode cX0_passNight 59 = .ok (.istore_n 2, 1) := by decide +kernel
theorem dX0_passNight_60 : decode cX0_passNight 60 = .ok (.iload_n 2, 1) := by decide +kernel
theorem dX0_passNight_61 : decode cX0_passNight 61 = .ok (.bipush 6, 2) := by decide +kernel
theorem dX0_passNight_63 : decode cX0_passNight 63 = .ok (.if_icmp .ge 40, 3) := by decide +kernel
theorem dX0_passNight_66 : decode cX0_passNight 66 = .ok (.aload_n 0, 1) := by decide +kernel
theorem dX0_passNight_67 : decode cX0_passNight 67 = .ok (.iload_n 2, 1) := by decide +kernel
theorem dX0_passNight_68 : decode cX0_passNight 68 = .ok (.invokevirtual 57, 3) := by decide +kernel
theorem dX0_passNight_71 : decode cX0_passNight 71 = .ok (.ifCond .eq 26, 3) := by decide +kernel
theorem dX0_passNight_74 : decode cX0_passNight 74 = .ok (.aload_n 0, 1) := by decide +kernel
theorem dX0_passNight_75 : decode cX0_passNight 75 = .ok (.getfield 18, 3) := by decide +kernel
theorem dX0_passNight_78 : decode cX0_passNight 78 = .ok (.iload_n 2, 1) := by decide +kernel
theorem dX0_passNight_79 : decode cX0_passNight 79 = .ok (.iconst 0, 1) := by decide +kernel
theorem dX0_passNight_80 : decode cX0_passNight 80 = .ok (.aload_n 0, 1) := by decide +kernel
theorem dX0_passNight_81 : decode cX0_passNight 81 = .ok (.getfield 18, 3) := by decide +kernel
theorem dX0_passNight_84 : decode cX0_passNight 84 = .ok (.iload_n 2, 1) := by decide +kernel
theorem dX0_passNight_85 : decode cX0_passNight 85 = .ok (.iaload, 1) := by decide +kernel
theorem dX0_passNight_86 : decode cX0_passNight 86 = .ok (.aload_n 0, 1) := by decide +kernel
theorem dX0_passNight_87 : decode cX0_passNight 87 = .ok (.iload_n 2, 1) := by decide +kernel
theorem dX0_passNight_88 : decode cX0_passNight 88 = .ok (.iload_n 1, 1) := by decide +kernel
theorem dX0_passNight_89 : decode cX0_passNight 89 = .ok (.invokevirtual 53, 3) := by decide +kernel
theorem dX0_passNight_92 : decode cX0_passNight 92 = .ok (.isub, 1) := by decide +kernel
theorem dX0_passNight_93 : decode cX0_passNight 93 = .ok (.invokestatic 76, 3) := by decide +kernel
theorem dX0_passNight_96 : decode cX0_passNight 96 = .ok (.iastore, 1) := by decide +kernel
theorem dX0_passNight_97 : decode cX0_passNight 97 = .ok (.iinc 2 1, 3) := by decide +kernel
theorem dX0_passNight_100 : decode cX0_passNight 100 = .ok (.goto (-40), 3) := by decide +kernel
theorem dX0_passNight_103 : decode cX0_passNight 103 = .ok (.iload_n 1, 1) := by decide +kernel
theorem dX0_passNight_104 : decode cX0_passNight 104 = .ok (.ireturn, 1) := by decide +kernel
theorem dX0_smoulder_0 : decode cX0_smoulder 0 = .ok (.aload_n 0, 1) := by decide +kernel
theorem dX0_smoulder_1 : decode cX0_smoulder 1 = .ok (.getfield 15, 3) := by decide +kernel
theorem dX0_smoulder_4 : decode cX0_smoulder 4 = .ok (.iload_n 1, 1) := by decide +kernel
theorem dX0_smoulder_5 : decode cX0_smoulder 5 = .ok (.iaload, 1) := by decide +kernel
theorem dX0_smoulder_6 : decode cX0_smoulder 6 = .ok (.iconst 5, 1) := by decide +kernel
theorem dX0_smoulder_7 : decode cX0_smoulder 7 = .ok (.iadd, 1) := by decide +kernel
theorem dX0_smoulder_8 : decode cX0_smoulder 8 = .ok (.aload_n 0, 1) := by decide +kernel
theorem dX0_smoulder_9 : decode cX0_smoulder 9 = .ok (.getfield 18, 3) := by decide +kernel
theorem dX0_smoulder_12 : decode cX0_smoulder 12 = .ok (.iload_n 1, 1) := by decide +kernel
theorem dX0_smoulder_13 : decode cX0_smoulder 13 = .ok (.iaload, 1) := by decide +kernel
theorem dX0_smoulder_14 : decode cX0_smoulder 14 = .ok (.isub, 1) := by decide +kernel
theorem dX0_smoulder_15 : decode cX0_smoulder 15 = .ok (.istore_n 2, 1) := by decide +kernel
theorem dX0_smoulder_16 : decode cX0_smoulder 16 = .ok (.iload_n 2, 1) := by decide +kernel
theorem dX0_smoulder_17 : decode cX0_smoulder 17 = .ok (.ifCond .gt 24, 3) := by decide +kernel
theorem dX0_smoulder_20 : decode cX0_smoulder 20 = .ok (.aload_n 0, 1) := by decide +kernel
theorem dX0_smoulder_21 : decode cX0_smoulder 21 = .ok (.getfield 15, 3) := by decide +kernel
theorem dX0_smoulder_24 : decode cX0_smoulder 24 = .ok (.iload_n 1, 1) := by decide +kernel
theorem dX0_smoulder_25 : decode cX0_smoulder 25 = .ok (.iconst 0, 1) := by decide +kernel
theorem dX0_smoulder_26 : decode cX0_smoulder 26 = .ok (.iastore, 1) := by decide +kernel
theorem dX0_smoulder_27 : decode cX0_smoulder 27 = .ok (.aload_n 0, 1) := by decide +kernel
theorem dX0_smoulder_28 : decode cX0_smoulder 28 = .ok (.dup, 1) := by decide +kernel
theorem dX0_smoulder_29 : decode cX0_smoulder 29 = .ok (.getfield 28, 3) := by decide +kernel
theorem dX0_smoulder_32 : decode cX0_smoulder 32 = .ok (.iconst 1, 1) := by decide +kernel
theorem dX0_smoulder_33 : decode cX0_smoulder 33 = .ok (.iload_n 1, 1) := by decide +kernel
theorem dX0_smoulder_34 : decode cX0_smoulder 34 = .ok (.ishl, 1) := by decide +kernel
theorem dX0_smoulder_35 : decode cX0_smoulder 35 = .ok (.ior, 1) := by decide +kernel
theorem dX0_smoulder_36 : decode cX0_smoulder 36 = .ok (.putfield 28, 3) := by decide +kernel
theorem dX0_smoulder_39 : decode cX0_smoulder 39 = .ok (.iconst 0, 1) := by decide +kernel
theorem dX0_smoulder_40 : decode cX0_smoulder 40 = .ok (.ireturn, 1) := by decide +kernel
theorem dX0_smoulder_41 : decode cX0_smoulder 41 = .ok (.iload_n 2, 1) := by decide +kernel
theorem dX0_smoulder_42 : decode cX0_smoulder 42 = .ok (.bipush 9, 2) := by decide +kernel
theorem dX0_smoulder_44 : decode cX0_smoulder 44 = .ok (.if_icmp .gt 12, 3) := by decide +kernel
theorem dX0_smoulder_47 : decode cX0_smoulder 47 = .ok (.aload_n 0, 1) := by decide +kernel
theorem dX0_smoulder_48 : decode cX0_smoulder 48 = .ok (.getfield 15, 3) := by decide +kernel
theorem dX0_smoulder_51 : decode cX0_smoulder 51 = .ok (.iload_n 1, 1) := by decide +kernel
theorem dX0_smoulder_52 : decode cX0_smoulder 52 = .ok (.iload_n 2, 1) := by decide +kernel
theorem dX0_smoulder_53 : decode cX0_smoulder 53 = .ok (.iastore, 1) := by decide +kernel
theorem dX0_smoulder_54 : decode cX0_smoulder 54 = .ok (.iconst 0, 1) := by decide +kernel
theorem dX0_smoulder_55 : decode cX0_smoulder 55 = .ok (.ireturn, 1) := by decide +kernel
theorem dX0_smoulder_56 : decode cX0_smoulder 56 = .ok (.aload_n 0, 1) := by decide +kernel
theorem dX0_smoulder_57 : decode cX0_smoulder 57 = .ok (.getfield 31, 3) := by decide +kernel
theorem dX0_smoulder_60 : decode cX0_smoulder 60 = .ok (.iload_n 1, 1) := by decide +kernel
theorem dX0_smoulder_61 : decode cX0_smoulder 61 = .ok (.invokestatic 43, 3) := by decide +kernel
theorem dX0_smoulder_64 : decode cX0_smoulder 64 = .ok (.istore_n 3, 1) := by decide +kernel
theorem dX0_smoulder_65 : decode cX0_smoulder 65 = .ok (.aload_n 0, 1) := by decide +kernel
theorem dX0_smoulder_66 : decode cX0_smoulder 66 = .ok (.getfield 15, 3) := by decide +kernel
theorem dX0_smoulder_69 : decode cX0_smoulder 69 = .ok (.iload_n 1, 1) := by decide +kernel
theorem dX0_smoulder_70 : decode cX0_smoulder 70 = .ok (.iload_n 3, 1) := by decide +kernel
theorem dX0_smoulder_71 : decode cX0_smoulder 71 = .ok (.ifCond .eq 7, 3) := by decide +kernel
theorem dX0_smoulder_74 : decode cX0_smoulder 74 = .ok (.iconst 5, 1) := by decide +kernel
theorem dX0_smoulder_75 : decode cX0_smoulder 75 = .ok (.goto 5, 3) := by decide +kernel
theorem dX0_smoulder_78 : decode cX0_smoulder 78 = .ok (.bipush 9, 2) := by decide +kernel
theorem dX0_smoulder_80 : decode cX0_smoulder 80 = .ok (.iastore, 1) := by decide +kernel
theorem dX0_smoulder_81 : decode cX0_smoulder 81 = .ok (.iload_n 3, 1) := by decide +kernel
theorem dX0_smoulder_82 : decode cX0_smoulder 82 = .ok (.ifCond .ne 7, 3) := by decide +kernel
theorem dX0_smoulder_85 : decode cX0_smoulder 85 = .ok (.iconst 1, 1) := by decide +kernel
theorem dX0_smoulder_86 : decode cX0_smoulder 86 = .ok (.goto 4, 3) := by decide +kernel
theorem dX0_smoulder_89 : decode cX0_smoulder 89 = .ok (.iconst 0, 1) := by decide +kernel
theorem dX0_smoulder_90 : decode cX0_smoulder 90 = .ok (.ireturn, 1) := by decide +kernel
theorem dX1_init_0 : decode cX1_init 0 = .ok (.aload_n 0, 1) := by decide +kernel
theorem dX1_init_1 : decode cX1_init 1 = .ok (.invokespecial 3, 3) := by decide +kernel
theorem dX1_init_4 : decode cX1_init 4 = .ok (.aload_n 0, 1) := by decide +kernel
theorem dX1_init_5 : decode cX1_init 5 = .ok (.bipush 8, 2) := by decide +kernel
theorem dX1_init_7 : decode cX1_init 7 = .ok (.newarray .int, 2) := by decide +kernel
theorem dX1_init_9 : decode cX1_init 9 = .ok (.putfield 9, 3) := by decide +kernel
theorem dX1_init_12 : decode cX1_init 12 = .ok (.aload_n 0, 1) := by decide +kernel
theorem dX1_init_13 : decode cX1_init 13 = .ok (.bipush 8, 2) := by decide +kernel
theorem dX1_init_15 : decode cX1_init 15 = .ok (.newarray .int, 2) := by decide +kernel
theorem dX1_init_17 : decode cX1_init 17 = .ok (.putfield 15, 3) := by decide +kernel
theorem dX1_init_20 : decode cX1_init 20 = .ok (.return_, 1) := by decide +kernel
theorem dX1_readNights_0 : decode cX1_readNights 0 = .ok (.iload_n 1, 1) := by decide +kernel
theorem dX1_readNights_1 : decode cX1_readNights 1 = .ok (.istore_n 3, 1) := by decide +kernel
theorem dX1_readNights_2 : decode cX1_readNights 2 = .ok (.iload_n 2, 1) := by decide +kernel
theorem dX1_readNights_3 : decode cX1_readNights 3 = .ok (.iconst 1, 1) := by decide +kernel
theorem dX1_readNights_4 : decode cX1_readNights 4 = .ok (.isub, 1) := by decide +kernel
theorem dX1_readNights_5 : decode cX1_readNights 5 = .ok (.istore 4, 2) := by decide +kernel
theorem dX1_readNights_7 : decode cX1_readNights 7 = .ok (.iload 4, 2) := by decide +kernel
theorem dX1_readNights_9 : decode cX1_readNights 9 = .ok (.ifCond .lt 43, 3) := by decide +kernel
theorem dX1_readNights_12 : decode cX1_readNights 12 = .ok (.iload 4, 2) := by decide +kernel
theorem dX1_readNights_14 : decode cX1_readNights 14 = .ok (.bipush 8, 2) := by decide +kernel
theorem dX1_readNights_16 : decode cX1_readNights 16 = .ok (.if_icmp .ge 36, 3) := by decide +kernel
theorem dX1_readNights_19 : decode cX1_readNights 19 = .ok (.iload_n 3, 1) := by decide +kernel
theorem dX1_readNights_20 : decode cX1_readNights 20 = .ok (.bipush 10, 2) := by decide +kernel
theorem dX1_readNights_22 : decode cX1_readNights 22 = .ok (.irem, 1) := by decide +kernel
theorem dX1_readNights_23 : decode cX1_readNights 23 = .ok (.istore 5, 2) := by decide +kernel
theorem dX1_readNights_25 : decode cX1_readNights 25 = .ok (.iload 5, 2) := by decide +kernel
theorem dX1_readNights_27 : decode cX1_readNights 27 = .ok (.ifCond .gt 5, 3) := by decide +kernel
theorem dX1_readNights_30 : decode cX1_readNights 30 = .ok (.iconst 0, 1) := by decide +kernel
theorem dX1_readNights_31 : decode cX1_readNights 31 = .ok (.ireturn, 1) := by decide +kernel
theorem dX1_readNights_32 : decode cX1_readNights 32 = .ok (.aload_n 0, 1) := by decide +kernel
theorem dX1_readNights_33 : decode cX1_readNights 33 = .ok (.getfield 9, 3) := by decide +kernel
theorem dX1_readNights_36 : decode cX1_readNights 36 = .ok (.iload 4, 2) := by decide +kernel
theorem dX1_readNights_38 : decode cX1_readNights 38 = .ok (.iload 5, 2) := by decide +kernel
theorem dX1_readNights_40 : decode cX1_readNights 40 = .ok (.iastore, 1) := by decide +kernel
theorem dX1_readNights_41 : decode cX1_readNights 41 = .ok (.iload_n 3, 1) := by decide +kernel
theorem dX1_readNights_42 : decode cX1_readNights 42 = .ok (.bipush 10, 2) := by decide +kernel
theorem dX1_readNights_44 : decode cX1_readNights 44 = .ok (.idiv, 1) := by decide +kernel
theorem dX1_readNights_45 : decode cX1_readNights 45 = .ok (.istore_n 3, 1) := by decide +kernel
theorem dX1_readNights_46 : decode cX1_readNights 46 = .ok (.iinc 4 (-1), 3) := by decide +kernel
theorem dX1_readNights_49 : decode cX1_readNights 49 = .ok (.goto (-42), 3) := by decide +kernel
theorem dX1_readNights_52 : decode cX1_readNights 52 = .ok (.iload_n 3, 1) := by decide +kernel
theorem dX1_readNights_53 : decode cX1_readNights 53 = .ok (.ifCond .ne 7, 3) := by decide +kernel
theorem dX1_readNights_56 : decode cX1_readNights 56 = .ok (.iconst 1, 1) := by decide +kernel
theorem dX1_readNights_57 : decode cX1_readNights 57 = .ok (.goto 4, 3) := by decide +kernel
theorem dX1_readNights_60 : decode cX1_readNights 60 = .ok (.iconst 0, 1) := by decide +kernel
theorem dX1_readNights_61 : decode cX1_readNights 61 = .ok (.ireturn, 1) := by decide +kernel
theorem dX1_readDays_0 : decode cX1_readDays 0 = .ok (.lload_n 1, 1) := by decide +kernel
theorem dX1_readDays_1 : decode cX1_readDays 1 = .ok (.lconst 0, 1) := by decide +kernel
theorem dX1_readDays_2 : decode cX1_readDays 2 = .ok (.lcmp, 1) := by decide +kernel
theorem dX1_readDays_3 : decode cX1_readDays 3 = .ok (.ifCond .ge 5, 3) := by decide +kernel
theorem dX1_readDays_6 : decode cX1_readDays 6 = .ok (.iconst 0, 1) := by decide +kernel
theorem dX1_readDays_7 : decode cX1_readDays 7 = .ok (.ireturn, 1) := by decide +kernel
theorem dX1_readDays_8 : decode cX1_readDays 8 = .ok (.lload_n 1, 1) := by decide +kernel
theorem dX1_readDays_9 : decode cX1_readDays 9 = .ok (.lstore 4, 2) := by decide +kernel
theorem dX1_readDays_11 : decode cX1_readDays 11 = .ok (.iload_n 3, 1) := by decide +kernel
theorem dX1_readDays_12 : decode cX1_readDays 12 = .ok (.iconst 1, 1) := by decide +kernel
theorem dX1_readDays_13 : decode cX1_readDays 13 = .ok (.isub, 1) := by decide +kernel
theorem dX1_readDays_14 : decode cX1_readDays 14 = .ok (.istore 6, 2) := by decide +kernel
theorem dX1_readDays_16 : decode cX1_readDays 16 = .ok (.iload 6, 2) := by decide +kernel
theorem dX1_readDays_18 : decode cX1_readDays 18 = .ok (.ifCond .lt 38, 3) := by decide +kernel
theorem dX1_readDays_21 : decode cX1_readDays 21 = .ok (.iload 6, 2) := by decide +kernel
theorem dX1_readDays_23 : decode cX1_readDays 23 = .ok (.bipush 8, 2) := by decide +kernel
theorem dX1_readDays_25 : decode cX1_readDays 25 = .ok (.if_icmp .ge 31, 3) := by decide +kernel
theorem dX1_readDays_28 : decode cX1_readDays 28 = .ok (.aload_n 0, 1) := by decide +kernel
theorem dX1_readDays_29 : decode cX1_readDays 29 = .ok (.getfield 15, 3) := by decide +kernel
theorem dX1_readDays_32 : decode cX1_readDays 32 = .ok (.iload 6, 2) := by decide +kernel
theorem dX1_readDays_34 : decode cX1_readDays 34 = .ok (.lload 4, 2) := by decide +kernel
theorem dX1_readDays_36 : decode cX1_readDays 36 = .ok (.ldc2_w 18, 3) := by decide +kernel
theorem dX1_readDays_39 : decode cX1_readDays 39 = .ok (.lrem, 1) := by decide +kernel
theorem dX1_readDays_40 : decode cX1_readDays 40 = .ok (.l2i, 1) := by decide +kernel
theorem dX1_readDays_41 : decode cX1_readDays 41 = .ok (.iastore, 1) := by decide +kernel
theorem dX1_readDays_42 : decode cX1_readDays 42 = .ok (.lload 4, 2) := by decide +kernel
theorem dX1_readDays_44 : decode cX1_readDays 44 = .ok (.ldc2_w 18, 3) := by decide +kernel
theorem dX1_readDays_47 : decode cX1_readDays 47 = .ok (.ldiv, 1) := by decide +kernel
theorem dX1_readDays_48 : decode cX1_readDays 48 = .ok (.lstore 4, 2) := by decide +kernel
theorem dX1_readDays_50 : decode cX1_readDays 50 = .ok (.iinc 6 (-1), 3) := by decide +kernel
theorem dX1_readDays_53 : decode cX1_readDays 53 = .ok (.goto (-37), 3) := by decide +kernel
theorem dX1_readDays_56 : decode cX1_readDays 56 = .ok (.lload 4, 2) := by decide +kernel
theorem dX1_readDays_58 : decode cX1_readDays 58 = .ok (.lconst 0, 1) := by decide +kernel
theorem dX1_readDays_59 : decode cX1_readDays 59 = .ok (.lcmp, 1) := by decide +kernel
theorem dX1_readDays_60 : decode cX1_readDays 60 = .ok (.ifCond .ne 7, 3) := by decide +kernel
theorem dX1_readDays_63 : decode cX1_readDays 63 = .ok (.iconst 1, 1) := by decide +kernel
theorem dX1_readDays_64 : decode cX1_readDays 64 = .ok (.goto 4, 3) := by decide +kernel
theorem dX1_readDays_67 : decode cX1_readDays 67 = .ok (.iconst 0, 1) := by decide +kernel
theorem dX1_readDays_68 : decode cX1_readDays 68 = .ok (.ireturn, 1) := by decide +kernel
theorem dX1_mostInTime_0 : decode cX1_mostInTime 0 = .ok (.iconst 0, 1) := by decide +kernel
theorem dX1_mostInTime_1 : decode cX1_mostInTime 1 = .ok (.istore_n 2, 1) := by decide +kernel
theorem dX1_mostInTime_2 : decode cX1_mostInTime 2 = .ok (.iconst 1, 1) := by decide +kernel
theorem dX1_mostInTime_3 : decode cX1_mostInTime 3 = .ok (.istore_n 3, 1) := by decide +kernel
theorem dX1_mostInTime_4 : decode cX1_mostInTime 4 = .ok (.iload_n 3, 1) := by decide +kernel
theorem dX1_mostInTime_5 : decode cX1_mostInTime 5 = .ok (.iconst 1, 1) := by decide +kernel
theorem dX1_mostInTime_6 : decode cX1_mostInTime 6 = .ok (.iload_n 1, 1) := by decide +kernel
theorem dX1_mostInTime_7 : decode cX1_mostInTime 7 = .ok (.ishl, 1) := by decide +kernel
theorem dX1_mostInTime_8 : decode cX1_mostInTime 8 = .ok (.if_icmp .ge 31, 3) := by decide +kernel
theorem dX1_mostInTime_11 : decode cX1_mostInTime 11 = .ok (.iload_n 3, 1) := by decide +kernel
theorem dX1_mostInTime_12 : decode cX1_mostInTime 12 = .ok (.invokestatic 20, 3) := by decide +kernel
theorem dX1_mostInTime_15 : decode cX1_mostInTime 15 = .ok (.iload_n 2, 1) := by decide +kernel
theorem dX1_mostInTime_16 : decode cX1_mostInTime 16 = .ok (.invokestatic 20, 3) := by decide +kernel
theorem dX1_mostInTime_19 : decode cX1_mostInTime 19 = .ok (.if_icmp .le 14, 3) := by decide +kernel
theorem dX1_mostInTime_22 : decode cX1_mostInTime 22 = .ok (.aload_n 0, 1) := by decide +kernel
theorem dX1_mostInTime_23 : decode cX1_mostInTime 23 = .ok (.iload_n 3, 1) := by decide +kernel
theorem dX1_mostInTime_24 : decode cX1_mostInTime 24 = .ok (.iload_n 1, 1) := by decide +kernel
theorem dX1_mostInTime_25 : decode cX1_mostInTime 25 = .ok (.invokevirtual 26, 3) := by decide +kernel
theorem dX1_mostInTime_28 : decode cX1_mostInTime 28 = .ok (.ifCond .eq 5, 3) := by decide +kernel
theorem dX1_mostInTime_31 : decode cX1_mostInTime 31 = .ok (.iload_n 3, 1) := by decide +kernel
theorem dX1_mostInTime_32 : decode cX1_mostInTime 32 = .ok (.istore_n 2, 1) := by decide +kernel
theorem dX1_mostInTime_33 : decode cX1_mostInTime 33 = .ok (.iinc 3 1, 3) := by decide +kernel
theorem dX1_mostInTime_36 : decode cX1_mostInTime 36 = .ok (.goto (-32), 3) := by decide +kernel
theorem dX1_mostInTime_39 : decode cX1_mostInTime 39 = .ok (.iload_n 2, 1) := by decide +kernel
theorem dX1_mostInTime_40 : decode cX1_mostInTime 40 = .ok (.ireturn, 1) := by decide +kernel
theorem dX1_areInTime_0 : decode cX1_areInTime 0 = .ok (.iconst 0, 1) := by decide +kernel
theorem dX1_areInTime_1 : decode cX1_areInTime 1 = .ok (.istore_n 3, 1) := by decide +kernel
theorem dX1_areInTime_2 : decode cX1_areInTime 2 = .ok (.iload_n 3, 1) := by decide +kernel
theorem dX1_areInTime_3 : decode cX1_areInTime 3 = .ok (.iload_n 2, 1) := by decide +kernel
theorem dX1_areInTime_4 : decode cX1_areInTime 4 = .ok (.if_icmp .ge 46, 3) := by decide +kernel
theorem dX1_areInTime_7 : decode cX1_areInTime 7 = .ok (.iload_n 3, 1) := by decide +kernel
theorem dX1_areInTime_8 : decode cX1_areInTime 8 = .ok (.bipush 8, 2) := by decide +kernel
theorem dX1_areInTime_10 : decode cX1_areInTime 10 = .ok (.if_icmp .ge 40, 3) := by decide +kernel
theorem dX1_areInTime_13 : decode cX1_areInTime 13 = .ok (.iload_n 1, 1) := by decide +kernel
theorem dX1_areInTime_14 : decode cX1_areInTime 14 = .ok (.iload_n 3, 1) := by decide +kernel
theorem dX1_areInTime_15 : decode cX1_areInTime 15 = .ok (.invokestatic 30, 3) := by decide +kernel
theorem dX1_areInTime_18 : decode cX1_areInTime 18 = .ok (.ifCond .eq 26, 3) := by decide +kernel
theorem dX1_areInTime_21 : decode cX1_areInTime 21 = .ok (.aload_n 0, 1) := by decide +kernel
theorem dX1_areInTime_22 : decode cX1_areInTime 22 = .ok (.aload_n 0, 1) := by decide +kernel
theorem dX1_areInTime_23 : decode cX1_areInTime 23 = .ok (.getfield 15, 3) := by decide +kernel
theorem dX1_areInTime_26 : decode cX1_areInTime 26 = .ok (.iload_n 3, 1) := by decide +kernel
theorem dX1_areInTime_27 : decode cX1_areInTime 27 = .ok (.iaload, 1) := by decide +kernel
theorem dX1_areInTime_28 : decode cX1_areInTime 28 = .ok (.iload_n 1, 1) := by decide +kernel
theorem dX1_areInTime_29 : decode cX1_areInTime 29 = .ok (.iload_n 2, 1) := by decide +kernel
theorem dX1_areInTime_30 : decode cX1_areInTime 30 = .ok (.invokevirtual 33, 3) := by decide +kernel
theorem dX1_areInTime_33 : decode cX1_areInTime 33 = .ok (.aload_n 0, 1) := by decide +kernel
theorem dX1_areInTime_34 : decode cX1_areInTime 34 = .ok (.getfield 15, 3) := by decide +kernel
theorem dX1_areInTime_37 : decode cX1_areInTime 37 = .ok (.iload_n 3, 1) := by decide +kernel
theorem dX1_areInTime_38 : decode cX1_areInTime 38 = .ok (.iaload, 1) := by decide +kernel
theorem dX1_areInTime_39 : decode cX1_areInTime 39 = .ok (.if_icmp .le 5, 3) := by decide +kernel
theorem dX1_areInTime_42 : decode cX1_areInTime 42 = .ok (.iconst 0, 1) := by decide +kernel
theorem dX1_areInTime_43 : decode cX1_areInTime 43 = .ok (.ireturn, 1) := by decide +kernel
theorem dX1_areInTime_44 : decode cX1_areInTime 44 = .ok (.iinc 3 1, 3) := by decide +kernel
theorem dX1_areInTime_47 : decode cX1_areInTime 47 = .ok (.goto (-45), 3) := by decide +kernel
theorem dX1_areInTime_50 : decode cX1_areInTime 50 = .ok (.iconst 1, 1) := by decide +kernel
theorem dX1_areInTime_51 : decode cX1_areInTime 51 = .ok (.ireturn, 1) := by decide +kernel
theorem dX1_nightsUntil_0 : decode cX1_nightsUntil 0 = .ok (.iconst 0, 1) := by decide +kernel
theorem dX1_nightsUntil_1 : decode cX1_nightsUntil 1 = .ok (.istore 4, 2) := by decide +kernel
theorem dX1_nightsUntil_3 : decode cX1_nightsUntil 3 = .ok (.iconst 0, 1) := by decide +kernel
theorem dX1_nightsUntil_4 : decode cX1_nightsUntil 4 = .ok (.istore 5, 2) := by decide +kernel
theorem dX1_nightsUntil_6 : decode cX1_nightsUntil 6 = .ok (.iload 5, 2) := by decide +kernel
theorem dX1_nightsUntil_8 : decode cX1_nightsUntil 8 = .ok (.iload_n 3, 1) := by decide +kernel
theorem dX1_nightsUntil_9 : decode cX1_nightsUntil 9 = .ok (.if_icmp .ge 48, 3) := by decide +kernel
theorem dX1_nightsUntil_12 : decode cX1_nightsUntil 12 = .ok (.iload 5, 2) := by decide +kernel
theorem dX1_nightsUntil_14 : decode cX1_nightsUntil 14 = .ok (.bipush 8, 2) := by decide +kernel
theorem dX1_nightsUntil_16 : decode cX1_nightsUntil 16 = .ok (.if_icmp .ge 41, 3) := by decide +kernel
theorem dX1_nightsUntil_19 : decode cX1_nightsUntil 19 = .ok (.iload_n 2, 1) := by decide +kernel
theorem dX1_nightsUntil_20 : decode cX1_nightsUntil 20 = .ok (.iload 5, 2) := by decide +kernel
theorem dX1_nightsUntil_22 : decode cX1_nightsUntil 22 = .ok (.invokestatic 30, 3) := by decide +kernel
theorem dX1_nightsUntil_25 : decode cX1_nightsUntil 25 = .ok (.ifCond .eq 26, 3) := by decide +kernel
theorem dX1_nightsUntil_28 : decode cX1_nightsUntil 28 = .ok (.aload_n 0, 1) := by decide +kernel
theorem dX1_nightsUntil_29 : decode cX1_nightsUntil 29 = .ok (.getfield 15, 3) := by decide +kernel
theorem dX1_nightsUntil_32 : decode cX1_nightsUntil 32 = .ok (.iload 5, 2) := by decide +kernel
theorem dX1_nightsUntil_34 : decode cX1_nightsUntil 34 = .ok (.iaload, 1) := by decide +kernel
theorem dX1_nightsUntil_35 : decode cX1_nightsUntil 35 = .ok (.iload_n 1, 1) := by decide +kernel
theorem dX1_nightsUntil_36 : decode cX1_nightsUntil 36 = .ok (.if_icmp .gt 15, 3) := by decide +kernel
theorem dX1_nightsUntil_39 : decode cX1_nightsUntil 39 = .ok (.iload 4, 2) := by decide +kernel
theorem dX1_nightsUntil_41 : decode cX1_nightsUntil 41 = .ok (.aload_n 0, 1) := by decide +kernel
theorem dX1_nightsUntil_42 : decode cX1_nightsUntil 42 = .ok (.getfield 9, 3) := by decide +kernel
theorem dX1_nightsUntil_45 : decode cX1_nightsUntil 45 = .ok (.iload 5, 2) := by decide +kernel
theorem dX1_nightsUntil_47 : decode cX1_nightsUntil 47 = .ok (.iaload, 1) := by decide +kernel
theorem dX1_nightsUntil_48 : decode cX1_nightsUntil 48 = .ok (.iadd, 1) := by decide +kernel
theorem dX1_nightsUntil_49 : decode cX1_nightsUntil 49 = .ok (.istore 4, 2) := by decide +kernel
theorem dX1_nightsUntil_51 : decode cX1_nightsUntil 51 = .ok (.iinc 5 1, 3) := by decide +kernel
theorem dX1_nightsUntil_54 : decode cX1_nightsUntil 54 = .ok (.goto (-48), 3) := by decide +kernel
theorem dX1_nightsUntil_57 : decode cX1_nightsUntil 57 = .ok (.iload 4, 2) := by decide +kernel
theorem dX1_nightsUntil_59 : decode cX1_nightsUntil 59 = .ok (.ireturn, 1) := by decide +kernel
theorem dX2_init_0 : decode cX2_init 0 = .ok (.aload_n 0, 1) := by decide +kernel
theorem dX2_init_1 : decode cX2_init 1 = .ok (.invokespecial 1, 3) := by decide +kernel
theorem dX2_init_4 : decode cX2_init 4 = .ok (.aload_n 0, 1) := by decide +kernel
theorem dX2_init_5 : decode cX2_init 5 = .ok (.new 7, 3) := by decide +kernel
theorem dX2_init_8 : decode cX2_init 8 = .ok (.dup, 1) := by decide +kernel
theorem dX2_init_9 : decode cX2_init 9 = .ok (.invokespecial 9, 3) := by decide +kernel
theorem dX2_init_12 : decode cX2_init 12 = .ok (.putfield 10, 3) := by decide +kernel
theorem dX2_init_15 : decode cX2_init 15 = .ok (.aload_n 0, 1) := by decide +kernel
theorem dX2_init_16 : decode cX2_init 16 = .ok (.new 16, 3) := by decide +kernel
theorem dX2_init_19 : decode cX2_init 19 = .ok (.dup, 1) := by decide +kernel
theorem dX2_init_20 : decode cX2_init 20 = .ok (.invokespecial 18, 3) := by decide +kernel
theorem dX2_init_23 : decode cX2_init 23 = .ok (.putfield 19, 3) := by decide +kernel
theorem dX2_init_26 : decode cX2_init 26 = .ok (.return_, 1) := by decide +kernel
theorem dX3_init_0 : decode cX3_init 0 = .ok (.aload_n 0, 1) := by decide +kernel
theorem dX3_init_1 : decode cX3_init 1 = .ok (.invokespecial 3, 3) := by decide +kernel
theorem dX3_init_4 : decode cX3_init 4 = .ok (.aload_n 0, 1) := by decide +kernel
theorem dX3_init_5 : decode cX3_init 5 = .ok (.bipush 60, 2) := by decide +kernel
theorem dX3_init_7 : decode cX3_init 7 = .ok (.newarray .int, 2) := by decide +kernel
theorem dX3_init_9 : decode cX3_init 9 = .ok (.putfield 9, 3) := by decide +kernel
theorem dX3_init_12 : decode cX3_init 12 = .ok (.return_, 1) := by decide +kernel
theorem dX3_append_0 : decode cX3_append 0 = .ok (.aload_n 0, 1) := by decide +kernel
theorem dX3_append_1 : decode cX3_append 1 = .ok (.getfield 15, 3) := by decide +kernel
theorem dX3_append_4 : decode cX3_append 4 = .ok (.ifCond .lt 12, 3) := by decide +kernel
theorem dX3_append_7 : decode cX3_append 7 = .ok (.aload_n 0, 1) := by decide +kernel
theorem dX3_append_8 : decode cX3_append 8 = .ok (.getfield 15, 3) := by decide +kernel
theorem dX3_append_11 : decode cX3_append 11 = .ok (.bipush 60, 2) := by decide +kernel
theorem dX3_append_13 : decode cX3_append 13 = .ok (.if_icmp .lt 5, 3) := by decide +kernel
theorem dX3_append_16 : decode cX3_append 16 = .ok (.iconst 0, 1) := by decide +kernel
theorem dX3_append_17 : decode cX3_append 17 = .ok (.ireturn, 1) := by decide +kernel
theorem dX3_append_18 : decode cX3_append 18 = .ok (.aload_n 0, 1) := by decide +kernel
theorem dX3_append_19 : decode cX3_append 19 = .ok (.getfield 9, 3) := by decide +kernel
theorem dX3_append_22 : decode cX3_append 22 = .ok (.aload_n 0, 1) := by decide +kernel
theorem dX3_append_23 : decode cX3_append 23 = .ok (.getfield 15, 3) := by decide +kernel
theorem dX3_append_26 : decode cX3_append 26 = .ok (.iload_n 1, 1) := by decide +kernel
theorem dX3_append_27 : decode cX3_append 27 = .ok (.iastore, 1) := by decide +kernel
theorem dX3_append_28 : decode cX3_append 28 = .ok (.aload_n 0, 1) := by decide +kernel
theorem dX3_append_29 : decode cX3_append 29 = .ok (.dup, 1) := by decide +kernel
theorem dX3_append_30 : decode cX3_append 30 = .ok (.getfield 15, 3) := by decide +kernel
theorem dX3_append_33 : decode cX3_append 33 = .ok (.iconst 1, 1) := by decide +kernel
theorem dX3_append_34 : decode cX3_append 34 = .ok (.iadd, 1) := by decide +kernel
theorem dX3_append_35 : decode cX3_append 35 = .ok (.putfield 15, 3) := by decide +kernel
theorem dX3_append_38 : decode cX3_append 38 = .ok (.iconst 1, 1) := by decide +kernel
theorem dX3_append_39 : decode cX3_append 39 = .ok (.ireturn, 1) := by decide +kernel
theorem dX3_faultPlace_0 : decode cX3_faultPlace 0 = .ok (.iconst 0, 1) := by decide +kernel
theorem dX3_faultPlace_1 : decode cX3_faultPlace 1 = .ok (.istore_n 1, 1) := by decide +kernel
theorem dX3_faultPlace_2 : decode cX3_faultPlace 2 = .ok (.iconst 0, 1) := by decide +kernel
theorem dX3_faultPlace_3 : decode cX3_faultPlace 3 = .ok (.istore_n 2, 1) := by decide +kernel
theorem dX3_faultPlace_4 : decode cX3_faultPlace 4 = .ok (.iload_n 2, 1) := by decide +kernel
theorem dX3_faultPlace_5 : decode cX3_faultPlace 5 = .ok (.aload_n 0, 1) := by decide +kernel
theorem dX3_faultPlace_6 : decode cX3_faultPlace 6 = .ok (.getfield 15, 3) := by decide +kernel
theorem dX3_faultPlace_9 : decode cX3_faultPlace 9 = .ok (.if_icmp .ge 72, 3) := by decide +kernel
theorem dX3_faultPlace_12 : decode cX3_faultPlace 12 = .ok (.iload_n 2, 1) := by decide +kernel
theorem dX3_faultPlace_13 : decode cX3_faultPlace 13 = .ok (.bipush 60, 2) := by decide +kernel
theorem dX3_faultPlace_15 : decode cX3_faultPlace 15 = .ok (.if_icmp .ge 66, 3) := by decide +kernel
theorem dX3_faultPlace_18 : decode cX3_faultPlace 18 = .ok (.aload_n 0, 1) := by decide +kernel
theorem dX3_faultPlace_19 : decode cX3_faultPlace 19 = .ok (.getfield 9, 3) := by decide +kernel
theorem dX3_faultPlace_22 : decode cX3_faultPlace 22 = .ok (.iload_n 2, 1) := by decide +kernel
theorem dX3_faultPlace_23 : decode cX3_faultPlace 23 = .ok (.iaload, 1) := by decide +kernel
theorem dX3_faultPlace_24 : decode cX3_faultPlace 24 = .ok (.invokestatic 19, 3) := by decide +kernel
theorem dX3_faultPlace_27 : decode cX3_faultPlace 27 = .ok (.istore_n 3, 1) := by decide +kernel
theorem dX3_faultPlace_28 : decode cX3_faultPlace 28 = .ok (.iload_n 1, 1) := by decide +kernel
theorem dX3_faultPlace_29 : decode cX3_faultPlace 29 = .ok (.ifCond .eq 15, 3) := by decide +kernel
theorem dX3_faultPlace_32 : decode cX3_faultPlace 32 = .ok (.aload_n 0, 1) := by decide +kernel
theorem dX3_faultPlace_33 : decode cX3_faultPlace 33 = .ok (.getfield 9, 3) := by decide +kernel
theorem dX3_faultPlace_36 : decode cX3_faultPlace 36 = .ok (.iload_n 2, 1) := by decide +kernel
theorem dX3_faultPlace_37 : decode cX3_faultPlace 37 = .ok (.iaload, 1) := by decide +kernel
theorem dX3_faultPlace_38 : decode cX3_faultPlace 38 = .ok (.invokestatic 23, 3) := by decide +kernel
theorem dX3_faultPlace_41 : decode cX3_faultPlace 41 = .ok (.goto 23, 3) := by decide +kernel
theorem dX3_faultPlace_44 : decode cX3_faultPlace 44 = .ok (.iload_n 3, 1) := by decide +kernel
theorem dX3_faultPlace_45 : decode cX3_faultPlace 45 = .ok (.ifCond .ne 14, 3) := by decide +kernel
theorem dX3_faultPlace_48 : decode cX3_faultPlace 48 = .ok (.aload_n 0, 1) := by decide +kernel
theorem dX3_faultPlace_49 : decode cX3_faultPlace 49 = .ok (.getfield 9, 3) := by decide +kernel
theorem dX3_faultPlace_52 : decode cX3_faultPlace 52 = .ok (.iload_n 2, 1) := by decide +kernel
theorem dX3_faultPlace_53 : decode cX3_faultPlace 53 = .ok (.iaload, 1) := by decide +kernel
theorem dX3_faultPlace_54 : decode cX3_faultPlace 54 = .ok (.bipush 46, 2) := by decide +kernel
theorem dX3_faultPlace_56 : decode cX3_faultPlace 56 = .ok (.if_icmp .ne 7, 3) := by decide +kernel
theorem dX3_faultPlace_59 : decode cX3_faultPlace 59 = .ok (.iconst 1, 1) := by decide +kernel
theorem dX3_faultPlace_60 : decode cX3_faultPlace 60 = .ok (.goto 4, 3) := by decide +kernel
theorem dX3_faultPlace_63 : decode cX3_faultPlace 63 = .ok (.iconst 0, 1) := by decide +kernel
theorem dX3_faultPlace_64 : decode cX3_faultPlace 64 = .ok (.istore 4, 2) := by decide +kernel
theorem dX3_faultPlace_66 : decode cX3_faultPlace 66 = .ok (.iload 4, 2) := by decide +kernel
theorem dX3_faultPlace_68 : decode cX3_faultPlace 68 = .ok (.ifCond .ne 5, 3) := by decide +kernel
theorem dX3_faultPlace_71 : decode cX3_faultPlace 71 = .ok (.iload_n 2, 1) := by decide +kernel
theorem dX3_faultPlace_72 : decode cX3_faultPlace 72 = .ok (.ireturn, 1) := by decide +kernel
theorem dX3_faultPlace_73 : decode cX3_faultPlace 73 = .ok (.iload_n 3, 1) := by decide +kernel
theorem dX3_faultPlace_74 : decode cX3_faultPlace 74 = .ok (.istore_n 1, 1) := by decide +kernel
theorem dX3_faultPlace_75 : decode cX3_faultPlace 75 = .ok (.iinc 2 1, 3) := by decide +kernel
theorem dX3_faultPlace_78 : decode cX3_faultPlace 78 = .ok (.goto (-74), 3) := by decide +kernel
theorem dX3_faultPlace_81 : decode cX3_faultPlace 81 = .ok (.iload_n 1, 1) := by decide +kernel
theorem dX3_faultPlace_82 : decode cX3_faultPlace 82 = .ok (.ifCond .eq 10, 3) := by decide +kernel
theorem dX3_faultPlace_85 : decode cX3_faultPlace 85 = .ok (.aload_n 0, 1) := by decide +kernel
theorem dX3_faultPlace_86 : decode cX3_faultPlace 86 = .ok (.getfield 15, 3) := by decide +kernel
theorem dX3_faultPlace_89 : decode cX3_faultPlace 89 = .ok (.goto 5, 3) := by decide +kernel
theorem dX3_faultPlace_92 : decode cX3_faultPlace 92 = .ok (.bipush (-6), 2) := by decide +kernel
theorem dX3_faultPlace_94 : decode cX3_faultPlace 94 = .ok (.ireturn, 1) := by decide +kernel
theorem dX3_isHeapLetter_0 : decode cX3_isHeapLetter 0 = .ok (.iload_n 0, 1) := by decide +kernel
theorem dX3_isHeapLetter_1 : decode cX3_isHeapLetter 1 = .ok (.i2l, 1) := by decide +kernel
theorem dX3_isHeapLetter_2 : decode cX3_isHeapLetter 2 = .ok (.ldc2_w 26, 3) := by decide +kernel
theorem dX3_isHeapLetter_5 : decode cX3_isHeapLetter 5 = .ok (.ldc2_w 28, 3) := by decide +kernel
theorem dX3_isHeapLetter_8 : decode cX3_isHeapLetter 8 = .ok (.invokestatic 30, 3) := by decide +kernel
theorem dX3_isHeapLetter_11 : decode cX3_isHeapLetter 11 = .ok (.ireturn, 1) := by decide +kernel
theorem dX3_isCellLetter_0 : decode cX3_isCellLetter 0 = .ok (.iload_n 0, 1) := by decide +kernel
theorem dX3_isCellLetter_1 : decode cX3_isCellLetter 1 = .ok (.i2l, 1) := by decide +kernel
theorem dX3_isCellLetter_2 : decode cX3_isCellLetter 2 = .ok (.ldc2_w 34, 3) := by decide +kernel
theorem dX3_isCellLetter_5 : decode cX3_isCellLetter 5 = .ok (.ldc2_w 36, 3) := by decide +kernel
theorem dX3_isCellLetter_8 : decode cX3_isCellLetter 8 = .ok (.invokestatic 30, 3) := by decide +kernel
theorem dX3_isCellLetter_11 : decode cX3_isCellLetter 11 = .ok (.ireturn, 1) := by decide +kernel
theorem dX3_isDeed_0 : decode cX3_isDeed 0 = .ok (.iload_n 0, 1) := by decide +kernel
theorem dX3_isDeed_1 : decode cX3_isDeed 1 = .ok (.invokestatic 38, 3) := by decide +kernel
theorem dX3_isDeed_4 : decode cX3_isDeed 4 = .ok (.ifCond .ne 27, 3) := by decide +kernel
theorem dX3_isDeed_7 : decode cX3_isDeed 7 = .ok (.iload_n 0, 1) := by decide +kernel
theorem dX3_isDeed_8 : decode cX3_isDeed 8 = .ok (.bipush 43, 2) := by decide +kernel
theorem dX3_isDeed_10 : decode cX3_isDeed 10 = .ok (.if_icmp .eq 21, 3) := by decide +kernel
theorem dX3_isDeed_13 : decode cX3_isDeed 13 = .ok (.iload_n 0, 1) := by decide +kernel
theorem dX3_isDeed_14 : decode cX3_isDeed 14 = .ok (.bipush 45, 2) := by decide +kernel
theorem dX3_isDeed_16 : decode cX3_isDeed 16 = .ok (.if_icmp .eq 15, 3) := by decide +kernel
theorem dX3_isDeed_19 : decode cX3_isDeed 19 = .ok (.iload_n 0, 1) := by decide +kernel
theorem dX3_isDeed_20 : decode cX3_isDeed 20 = .ok (.bipush 42, 2) := by decide +kernel
theorem dX3_isDeed_22 : decode cX3_isDeed 22 = .ok (.if_icmp .eq 9, 3) := by decide +kernel
theorem dX3_isDeed_25 : decode cX3_isDeed 25 = .ok (.iload_n 0, 1) := by decide +kernel
theorem dX3_isDeed_26 : decode cX3_isDeed 26 = .ok (.bipush 94, 2) := by decide +kernel
theorem dX3_isDeed_28 : decode cX3_isDeed 28 = .ok (.if_icmp .ne 7, 3) := by decide +kernel
theorem dX3_isDeed_31 : decode cX3_isDeed 31 = .ok (.iconst 1, 1) := by decide +kernel
theorem dX3_isDeed_32 : decode cX3_isDeed 32 = .ok (.goto 4, 3) := by decide +kernel
theorem dX3_isDeed_35 : decode cX3_isDeed 35 = .ok (.iconst 0, 1) := by decide +kernel
theorem dX3_isDeed_36 : decode cX3_isDeed 36 = .ok (.ireturn, 1) := by decide +kernel
theorem dX3_kindOf_0 : decode cX3_kindOf 0 = .ok (.iload_n 0, 1) := by decide +kernel
theorem dX3_kindOf_1 : decode cX3_kindOf 1 = .ok (.lookupswitch 61 #[(42, 55), (43, 51), (45, 53), (46, 59), (94, 57)], 51) := by decide +kernel
theorem dX3_kindOf_52 : decode cX3_kindOf 52 = .ok (.iconst 1, 1) := by decide +kernel
theorem dX3_kindOf_53 : decode cX3_kindOf 53 = .ok (.ireturn, 1) := by decide +kernel
theorem dX3_kindOf_54 : decode cX3_kindOf 54 = .ok (.iconst 2, 1) := by decide +kernel
theorem dX3_kindOf_55 : decode cX3_kindOf 55 = .ok (.ireturn, 1) := by decide +kernel
theorem dX3_kindOf_56 : decode cX3_kindOf 56 = .ok (.iconst 3, 1) := by decide +kernel
theorem dX3_kindOf_57 : decode cX3_kindOf 57 = .ok (.ireturn, 1) := by decide +kernel
theorem dX3_kindOf_58 : decode cX3_kindOf 58 = .ok (.iconst 4, 1) := by decide +kernel
theorem dX3_kindOf_59 : decode cX3_kindOf 59 = .ok (.ireturn, 1) := by decide +kernel
theorem dX3_kindOf_60 : decode cX3_kindOf 60 = .ok (.iconst 5, 1) := by decide +kernel
theorem dX3_kindOf_61 : decode cX3_kindOf 61 = .ok (.ireturn, 1) := by decide +kernel
theorem dX3_kindOf_62 : decode cX3_kindOf 62 = .ok (.iconst 0, 1) := by decide +kernel
theorem dX3_kindOf_63 : decode cX3_kindOf 63 = .ok (.ireturn, 1) := by decide +kernel
theorem dX4_init_0 : decode cX4_init 0 = .ok (.aload_n 0, 1) := by decide +kernel
theorem dX4_init_1 : decode cX4_init 1 = .ok (.invokespecial 3, 3) := by decide +kernel
theorem dX4_init_4 : decode cX4_init 4 = .ok (.aload_n 0, 1) := by decide +kernel
theorem dX4_init_5 : decode cX4_init 5 = .ok (.bipush 8, 2) := by decide +kernel
theorem dX4_init_7 : decode cX4_init 7 = .ok (.newarray .int, 2) := by decide +kernel
theorem dX4_init_9 : decode cX4_init 9 = .ok (.putfield 9, 3) := by decide +kernel
theorem dX4_init_12 : decode cX4_init 12 = .ok (.aload_n 0, 1) := by decide +kernel
theorem dX4_init_13 : decode cX4_init 13 = .ok (.bipush 8, 2) := by decide +kernel
theorem dX4_init_15 : decode cX4_init 15 = .ok (.newarray .int, 2) := by decide +kernel
theorem dX4_init_17 : decode cX4_init 17 = .ok (.putfield 15, 3) := by decide +kernel
theorem dX4_init_20 : decode cX4_init 20 = .ok (.return_, 1) := by decide +kernel
theorem dX4_copyFrom_0 : decode cX4_copyFrom 0 = .ok (.iconst 0, 1) := by decide +kernel
theorem dX4_copyFrom_1 : decode cX4_copyFrom 1 = .ok (.istore_n 2, 1) := by decide +kernel
theorem dX4_copyFrom_2 : decode cX4_copyFrom 2 = .ok (.iload_n 2, 1) := by decide +kernel
theorem dX4_copyFrom_3 : decode cX4_copyFrom 3 = .ok (.bipush 8, 2) := by decide +kernel
theorem dX4_copyFrom_5 : decode cX4_copyFrom 5 = .ok (.if_icmp .ge 33, 3) := by decide +kernel
theorem dX4_copyFrom_8 : decode cX4_copyFrom 8 = .ok (.aload_n 0, 1) := by decide +kernel
theorem dX4_copyFrom_9 : decode cX4_copyFrom 9 = .ok (.getfield 9, 3) := by decide +kernel
theorem dX4_copyFrom_12 : decode cX4_copyFrom 12 = .ok (.iload_n 2, 1) := by decide +kernel
theorem dX4_copyFrom_13 : decode cX4_copyFrom 13 = .ok (.aload_n 1, 1) := by decide +kernel
theorem dX4_copyFrom_14 : decode cX4_copyFrom 14 = .ok (.getfield 9, 3) := by decide +kernel
theorem dX4_copyFrom_17 : decode cX4_copyFrom 17 = .ok (.iload_n 2, 1) := by decide +kernel
theorem dX4_copyFrom_18 : decode cX4_copyFrom 18 = .ok (.iaload, 1) := by decide +kernel
theorem dX4_copyFrom_19 : decode cX4_copyFrom 19 = .ok (.iastore, 1) := by decide +kernel
theorem dX4_copyFrom_20 : decode cX4_copyFrom 20 = .ok (.aload_n 0, 1) := by decide +kernel
theorem dX4_copyFrom_21 : decode cX4_copyFrom 21 = .ok (.getfield 15, 3) := by decide +kernel
theorem dX4_copyFrom_24 : decode cX4_copyFrom 24 = .ok (.iload_n 2, 1) := by decide +kernel
theorem dX4_copyFrom_25 : decode cX4_copyFrom 25 = .ok (.aload_n 1, 1) := by decide +kernel
theorem dX4_copyFrom_26 : decode cX4_copyFrom 26 = .ok (.getfield 15, 3) := by decide +kernel
theorem dX4_copyFrom_29 : decode cX4_copyFrom 29 = .ok (.iload_n 2, 1) := by decide +kernel
theorem dX4_copyFrom_30 : decode cX4_copyFrom 30 = .ok (.iaload, 1) := by decide +kernel
theorem dX4_copyFrom_31 : decode cX4_copyFrom 31 = .ok (.iastore, 1) := by decide +kernel
theorem dX4_copyFrom_32 : decode cX4_copyFrom 32 = .ok (.iinc 2 1, 3) := by decide +kernel
theorem dX4_copyFrom_35 : decode cX4_copyFrom 35 = .ok (.goto (-33), 3) := by decide +kernel
theorem dX4_copyFrom_38 : decode cX4_copyFrom 38 = .ok (.aload_n 0, 1) := by decide +kernel
theorem dX4_copyFrom_39 : decode cX4_copyFrom 39 = .ok (.aload_n 1, 1) := by decide +kernel
theorem dX4_copyFrom_40 : decode cX4_copyFrom 40 = .ok (.getfield 18, 3) := by decide +kernel
theorem dX4_copyFrom_43 : decode cX4_copyFrom 43 = .ok (.putfield 18, 3) := by decide +kernel
theorem dX4_copyFrom_46 : decode cX4_copyFrom 46 = .ok (.return_, 1) := by decide +kernel
theorem dX4_append_0 : decode cX4_append 0 = .ok (.aload_n 0, 1) := by decide +kernel
theorem dX4_append_1 : decode cX4_append 1 = .ok (.getfield 18, 3) := by decide +kernel
theorem dX4_append_4 : decode cX4_append 4 = .ok (.ifCond .lt 12, 3) := by decide +kernel
theorem dX4_append_7 : decode cX4_append 7 = .ok (.aload_n 0, 1) := by decide +kernel
theorem dX4_append_8 : decode cX4_append 8 = .ok (.getfield 18, 3) := by decide +kernel
theorem dX4_append_11 : decode cX4_append 11 = .ok (.bipush 8, 2) := by decide +kernel
theorem dX4_append_13 : decode cX4_append 13 = .ok (.if_icmp .lt 5, 3) := by decide +kernel
theorem dX4_append_16 : decode cX4_append 16 = .ok (.iconst 0, 1) := by decide +kernel
theorem dX4_append_17 : decode cX4_append 17 = .ok (.ireturn, 1) := by decide +kernel
theorem dX4_append_18 : decode cX4_append 18 = .ok (.aload_n 0, 1) := by decide +kernel
theorem dX4_append_19 : decode cX4_append 19 = .ok (.getfield 9, 3) := by decide +kernel
theorem dX4_append_22 : decode cX4_append 22 = .ok (.aload_n 0, 1) := by decide +kernel
theorem dX4_append_23 : decode cX4_append 23 = .ok (.getfield 18, 3) := by decide +kernel
theorem dX4_append_26 : decode cX4_append 26 = .ok (.iload_n 1, 1) := by decide +kernel
theorem dX4_append_27 : decode cX4_append 27 = .ok (.iastore, 1) := by decide +kernel
theorem dX4_append_28 : decode cX4_append 28 = .ok (.aload_n 0, 1) := by decide +kernel
theorem dX4_append_29 : decode cX4_append 29 = .ok (.getfield 15, 3) := by decide +kernel
theorem dX4_append_32 : decode cX4_append 32 = .ok (.aload_n 0, 1) := by decide +kernel
theorem dX4_append_33 : decode cX4_append 33 = .ok (.getfield 18, 3) := by decide +kernel
theorem dX4_append_36 : decode cX4_append 36 = .ok (.iload_n 2, 1) := by decide +kernel
theorem dX4_append_37 : decode cX4_append 37 = .ok (.iastore, 1) := by decide +kernel
theorem dX4_append_38 : decode cX4_append 38 = .ok (.aload_n 0, 1) := by decide +kernel
theorem dX4_append_39 : decode cX4_append 39 = .ok (.dup, 1) := by decide +kernel
theorem dX4_append_40 : decode cX4_append 40 = .ok (.getfield 18, 3) := by decide +kernel
theorem dX4_append_43 : decode cX4_append 43 = .ok (.iconst 1, 1) := by decide +kernel
theorem dX4_append_44 : decode cX4_append 44 = .ok (.iadd, 1) := by decide +kernel
theorem dX4_append_45 : decode cX4_append 45 = .ok (.putfield 18, 3) := by decide +kernel
theorem dX4_append_48 : decode cX4_append 48 = .ok (.iconst 1, 1) := by decide +kernel
theorem dX4_append_49 : decode cX4_append 49 = .ok (.ireturn, 1) := by decide +kernel
theorem dX4_fit_0 : decode cX4_fit 0 = .ok (.iconst 0, 1) := by decide +kernel
theorem dX4_fit_1 : decode cX4_fit 1 = .ok (.istore_n 3, 1) := by decide +kernel
theorem dX4_fit_2 : decode cX4_fit 2 = .ok (.iload_n 3, 1) := by decide +kernel
theorem dX4_fit_3 : decode cX4_fit 3 = .ok (.aload_n 0, 1) := by decide +kernel
theorem dX4_fit_4 : decode cX4_fit 4 = .ok (.getfield 18, 3) := by decide +kernel
theorem dX4_fit_7 : decode cX4_fit 7 = .ok (.if_icmp .ge 37, 3) := by decide +kernel
theorem dX4_fit_10 : decode cX4_fit 10 = .ok (.iload_n 3, 1) := by decide +kernel
theorem dX4_fit_11 : decode cX4_fit 11 = .ok (.bipush 8, 2) := by decide +kernel
theorem dX4_fit_13 : decode cX4_fit 13 = .ok (.if_icmp .ge 31, 3) := by decide +kernel
theorem dX4_fit_16 : decode cX4_fit 16 = .ok (.iload_n 1, 1) := by decide +kernel
theorem dX4_fit_17 : decode cX4_fit 17 = .ok (.iload_n 2, 1) := by decide +kernel
theorem dX4_fit_18 : decode cX4_fit 18 = .ok (.aload_n 0, 1) := by decide +kernel
theorem dX4_fit_19 : decode cX4_fit 19 = .ok (.getfield 9, 3) := by decide +kernel
theorem dX4_fit_22 : decode cX4_fit 22 = .ok (.iload_n 3, 1) := by decide +kernel
theorem dX4_fit_23 : decode cX4_fit 23 = .ok (.iaload, 1) := by decide +kernel
theorem dX4_fit_24 : decode cX4_fit 24 = .ok (.invokestatic 22, 3) := by decide +kernel
theorem dX4_fit_27 : decode cX4_fit 27 = .ok (.aload_n 0, 1) := by decide +kernel
theorem dX4_fit_28 : decode cX4_fit 28 = .ok (.getfield 15, 3) := by decide +kernel
theorem dX4_fit_31 : decode cX4_fit 31 = .ok (.iload_n 3, 1) := by decide +kernel
theorem dX4_fit_32 : decode cX4_fit 32 = .ok (.iaload, 1) := by decide +kernel
theorem dX4_fit_33 : decode cX4_fit 33 = .ok (.if_icmp .eq 5, 3) := by decide +kernel
theorem dX4_fit_36 : decode cX4_fit 36 = .ok (.iconst 0, 1) := by decide +kernel
theorem dX4_fit_37 : decode cX4_fit 37 = .ok (.ireturn, 1) := by decide +kernel
theorem dX4_fit_38 : decode cX4_fit 38 = .ok (.iinc 3 1, 3) := by decide +kernel
theorem dX4_fit_41 : decode cX4_fit 41 = .ok (.goto (-39), 3) := by decide +kernel
theorem dX4_fit_44 : decode cX4_fit 44 = .ok (.iconst 1, 1) := by decide +kernel
theorem dX4_fit_45 : decode cX4_fit 45 = .ok (.ireturn, 1) := by decide +kernel
theorem dX4_listFitting_0 : decode cX4_listFitting 0 = .ok (.iconst 0, 1) := by decide +kernel
theorem dX4_listFitting_1 : decode cX4_listFitting 1 = .ok (.istore_n 2, 1) := by decide +kernel
theorem dX4_listFitting_2 : decode cX4_listFitting 2 = .ok (.iconst 0, 1) := by decide +kernel
theorem dX4_listFitting_3 : decode cX4_listFitting 3 = .ok (.istore_n 3, 1) := by decide +kernel
theorem dX4_listFitting_4 : decode cX4_listFitting 4 = .ok (.iload_n 3, 1) := by decide +kernel
theorem dX4_listFitting_5 : decode cX4_listFitting 5 = .ok (.bipush 7, 2) := by decide +kernel
theorem dX4_listFitting_7 : decode cX4_listFitting 7 = .ok (.if_icmp .ge 54, 3) := by decide +kernel
theorem dX4_listFitting_10 : decode cX4_listFitting 10 = .ok (.iconst 0, 1) := by decide +kernel
theorem dX4_listFitting_11 : decode cX4_listFitting 11 = .ok (.istore 4, 2) := by decide +kernel
theorem dX4_listFitting_13 : decode cX4_listFitting 13 = .ok (.iload 4, 2) := by decide +kernel
theorem dX4_listFitting_15 : decode cX4_listFitting 15 = .ok (.bipush 7, 2) := by decide +kernel
theorem dX4_listFitting_17 : decode cX4_listFitting 17 = .ok (.if_icmp .ge 38, 3) := by decide +kernel
theorem dX4_listFitting_20 : decode cX4_listFitting 20 = .ok (.iload_n 2, 1) := by decide +kernel
theorem dX4_listFitting_21 : decode cX4_listFitting 21 = .ok (.aload_n 1, 1) := by decide +kernel
theorem dX4_listFitting_22 : decode cX4_listFitting 22 = .ok (.arraylength, 1) := by decide +kernel
theorem dX4_listFitting_23 : decode cX4_listFitting 23 = .ok (.if_icmp .ge 26, 3) := by decide +kernel
theorem dX4_listFitting_26 : decode cX4_listFitting 26 = .ok (.aload_n 0, 1) := by decide +kernel
theorem dX4_listFitting_27 : decode cX4_listFitting 27 = .ok (.iload_n 3, 1) := by decide +kernel
theorem dX4_listFitting_28 : decode cX4_listFitting 28 = .ok (.iload 4, 2) := by decide +kernel
theorem dX4_listFitting_30 : decode cX4_listFitting 30 = .ok (.invokevirtual 26, 3) := by decide +kernel
theorem dX4_listFitting_33 : decode cX4_listFitting 33 = .ok (.ifCond .eq 16, 3) := by decide +kernel
theorem dX4_listFitting_36 : decode cX4_listFitting 36 = .ok (.aload_n 1, 1) := by decide +kernel
theorem dX4_listFitting_37 : decode cX4_listFitting 37 = .ok (.iload_n 2, 1) := by decide +kernel
theorem dX4_listFitting_38 : decode cX4_listFitting 38 = .ok (.bipush 10, 2) := by decide +kernel
theorem dX4_listFitting_40 : decode cX4_listFitting 40 = .ok (.iload_n 3, 1) := by decide +kernel
theorem dX4_listFitting_41 : decode cX4_listFitting 41 = .ok (.imul, 1) := by decide +kernel
theorem dX4_listFitting_42 : decode cX4_listFitting 42 = .ok (.iload 4, 2) := by decide +kernel
theorem dX4_listFitting_44 : decode cX4_listFitting 44 = .ok (.iadd, 1) := by decide +kernel
theorem dX4_listFitting_45 : decode cX4_listFitting 45 = .ok (.iastore, 1) := by decide +kernel
theorem dX4_listFitting_46 : decode cX4_listFitting 46 = .ok (.iinc 2 1, 3) := by decide +kernel
theorem dX4_listFitting_49 : decode cX4_listFitting 49 = .ok (.iinc 4 1, 3) := by decide +kernel
theorem dX4_listFitting_52 : decode cX4_listFitting 52 = .ok (.goto (-39), 3) := by decide +kernel
theorem dX4_listFitting_55 : decode cX4_listFitting 55 = .ok (.iinc 3 1, 3) := by decide +kernel
theorem dX4_listFitting_58 : decode cX4_listFitting 58 = .ok (.goto (-54), 3) := by decide +kernel
theorem dX4_listFitting_61 : decode cX4_listFitting 61 = .ok (.iload_n 2, 1) := by decide +kernel
theorem dX4_listFitting_62 : decode cX4_listFitting 62 = .ok (.ireturn, 1) := by decide +kernel
theorem dX5_init_0 : decode cX5_init 0 = .ok (.aload_n 0, 1) := by decide +kernel
theorem dX5_init_1 : decode cX5_init 1 = .ok (.invokespecial 3, 3) := by decide +kernel
theorem dX5_init_4 : decode cX5_init 4 = .ok (.aload_n 0, 1) := by decide +kernel
theorem dX5_init_5 : decode cX5_init 5 = .ok (.new 9, 3) := by decide +kernel
theorem dX5_init_8 : decode cX5_init 8 = .ok (.dup, 1) := by decide +kernel
theorem dX5_init_9 : decode cX5_init 9 = .ok (.invokespecial 11, 3) := by decide +kernel
theorem dX5_init_12 : decode cX5_init 12 = .ok (.putfield 12, 3) := by decide +kernel
theorem dX5_init_15 : decode cX5_init 15 = .ok (.return_, 1) := by decide +kernel
theorem dX5_tryOut_0 : decode cX5_tryOut 0 = .ok (.aload_n 0, 1) := by decide +kernel
theorem dX5_tryOut_1 : decode cX5_tryOut 1 = .ok (.aload_n 2, 1) := by decide +kernel
theorem dX5_tryOut_2 : decode cX5_tryOut 2 = .ok (.invokevirtual 18, 3) := by decide +kernel
theorem dX5_tryOut_5 : decode cX5_tryOut 5 = .ok (.aload_n 1, 1) := by decide +kernel
theorem dX5_tryOut_6 : decode cX5_tryOut 6 = .ok (.invokevirtual 22, 3) := by decide +kernel
theorem dX5_tryOut_9 : decode cX5_tryOut 9 = .ok (.bipush (-6), 2) := by decide +kernel
theorem dX5_tryOut_11 : decode cX5_tryOut 11 = .ok (.if_icmp .eq 5, 3) := by decide +kernel
theorem dX5_tryOut_14 : decode cX5_tryOut 14 = .ok (.iconst 0, 1) := by decide +kernel
theorem dX5_tryOut_15 : decode cX5_tryOut 15 = .ok (.ireturn, 1) := by decide +kernel
theorem dX5_tryOut_16 : decode cX5_tryOut 16 = .ok (.iconst 0, 1) := by decide +kernel
theorem dX5_tryOut_17 : decode cX5_tryOut 17 = .ok (.istore_n 3, 1) := by decide +kernel
theorem dX5_tryOut_18 : decode cX5_tryOut 18 = .ok (.iconst 0, 1) := by decide +kernel
theorem dX5_tryOut_19 : decode cX5_tryOut 19 = .ok (.istore 4, 2) := by decide +kernel
theorem dX5_tryOut_21 : decode cX5_tryOut 21 = .ok (.iload 4, 2) := by decide +kernel
theorem dX5_tryOut_23 : decode cX5_tryOut 23 = .ok (.aload_n 1, 1) := by decide +kernel
theorem dX5_tryOut_24 : decode cX5_tryOut 24 = .ok (.getfield 28, 3) := by decide +kernel
theorem dX5_tryOut_27 : decode cX5_tryOut 27 = .ok (.if_icmp .ge 117, 3) := by decide +kernel
theorem dX5_tryOut_30 : decode cX5_tryOut 30 = .ok (.iload 4, 2) := by decide +kernel
theorem dX5_tryOut_32 : decode cX5_tryOut 32 = .ok (.bipush 60, 2) := by decide +kernel
theorem dX5_tryOut_34 : decode cX5_tryOut 34 = .ok (.if_icmp .ge 110, 3) := by decide +kernel
theorem dX5_tryOut_37 : decode cX5_tryOut 37 = .ok (.aload_n 1, 1) := by decide +kernel
theorem dX5_tryOut_38 : decode cX5_tryOut 38 = .ok (.getfield 32, 3) := by decide +kernel
theorem dX5_tryOut_41 : decode cX5_tryOut 41 = .ok (.iload 4, 2) := by decide +kernel
theorem dX5_tryOut_43 : decode cX5_tryOut 43 = .ok (.iaload, 1) := by decide +kernel
theorem dX5_tryOut_44 : decode cX5_tryOut 44 = .ok (.istore 5, 2) := by decide +kernel
theorem dX5_tryOut_46 : decode cX5_tryOut 46 = .ok (.iload 5, 2) := by decide +kernel
theorem dX5_tryOut_48 : decode cX5_tryOut 48 = .ok (.invokestatic 36, 3) := by decide +kernel
theorem dX5_tryOut_51 : decode cX5_tryOut 51 = .ok (.ifCond .eq 12, 3) := by decide +kernel
theorem dX5_tryOut_54 : decode cX5_tryOut 54 = .ok (.iload 5, 2) := by decide +kernel
theorem dX5_tryOut_56 : decode cX5_tryOut 56 = .ok (.bipush 65, 2) := by decide +kernel
theorem dX5_tryOut_58 : decode cX5_tryOut 58 = .ok (.isub, 1) := by decide +kernel
theorem dX5_tryOut_59 : decode cX5_tryOut 59 = .ok (.istore_n 3, 1) := by decide +kernel
theorem dX5_tryOut_60 : decode cX5_tryOut 60 = .ok (.goto 78, 3) := by decide +kernel
theorem dX5_tryOut_63 : decode cX5_tryOut 63 = .ok (.iload 5, 2) := by decide +kernel
theorem dX5_tryOut_65 : decode cX5_tryOut 65 = .ok (.invokestatic 40, 3) := by decide +kernel
theorem dX5_tryOut_68 : decode cX5_tryOut 68 = .ok (.istore 6, 2) := by decide +kernel
theorem dX5_tryOut_70 : decode cX5_tryOut 70 = .ok (.iload 5, 2) := by decide +kernel
theorem dX5_tryOut_72 : decode cX5_tryOut 72 = .ok (.bipush 97, 2) := by decide +kernel
theorem dX5_tryOut_74 : decode cX5_tryOut 74 = .ok (.isub, 1) := by decide +kernel
theorem dX5_tryOut_75 : decode cX5_tryOut 75 = .ok (.istore 7, 2) := by decide +kernel
theorem dX5_tryOut_77 : decode cX5_tryOut 77 = .ok (.aload_n 0, 1) := by decide +kernel
theorem dX5_tryOut_78 : decode cX5_tryOut 78 = .ok (.getfield 12, 3) := by decide +kernel
theorem dX5_tryOut_81 : decode cX5_tryOut 81 = .ok (.iload 6, 2) := by decide +kernel
theorem dX5_tryOut_83 : decode cX5_tryOut 83 = .ok (.iload_n 3, 1) := by decide +kernel
theorem dX5_tryOut_84 : decode cX5_tryOut 84 = .ok (.iload 7, 2) := by decide +kernel
theorem dX5_tryOut_86 : decode cX5_tryOut 86 = .ok (.invokevirtual 44, 3) := by decide +kernel
theorem dX5_tryOut_89 : decode cX5_tryOut 89 = .ok (.istore 8, 2) := by decide +kernel
theorem dX5_tryOut_91 : decode cX5_tryOut 91 = .ok (.iload 8, 2) := by decide +kernel
theorem dX5_tryOut_93 : decode cX5_tryOut 93 = .ok (.ifCond .eq 19, 3) := by decide +kernel
theorem dX5_tryOut_96 : decode cX5_tryOut 96 = .ok (.aload_n 0, 1) := by decide +kernel
theorem dX5_tryOut_97 : decode cX5_tryOut 97 = .ok (.aload_n 0, 1) := by decide +kernel
theorem dX5_tryOut_98 : decode cX5_tryOut 98 = .ok (.getfield 48, 3) := by decide +kernel
theorem dX5_tryOut_101 : decode cX5_tryOut 101 = .ok (.putfield 51, 3) := by decide +kernel
theorem dX5_tryOut_104 : decode cX5_tryOut 104 = .ok (.aload_n 0, 1) := by decide +kernel
theorem dX5_tryOut_105 : decode cX5_tryOut 105 = .ok (.iload 8, 2) := by decide +kernel
theorem dX5_tryOut_107 : decode cX5_tryOut 107 = .ok (.putfield 54, 3) := by decide +kernel
theorem dX5_tryOut_110 : decode cX5_tryOut 110 = .ok (.iconst 0, 1) := by decide +kernel
theorem dX5_tryOut_111 : decode cX5_tryOut 111 = .ok (.ireturn, 1) := by decide +kernel
theorem dX5_tryOut_112 : decode cX5_tryOut 112 = .ok (.aload_n 0, 1) := by decide +kernel
theorem dX5_tryOut_113 : decode cX5_tryOut 113 = .ok (.aload_n 0, 1) := by decide +kernel
theorem dX5_tryOut_114 : decode cX5_tryOut 114 = .ok (.getfield 12, 3) := by decide +kernel
theorem dX5_tryOut_117 : decode cX5_tryOut 117 = .ok (.iload 6, 2) := by decide +kernel
theorem dX5_tryOut_119 : decode cX5_tryOut 119 = .ok (.iload_n 3, 1) := by decide +kernel
theorem dX5_tryOut_120 : decode cX5_tryOut 120 = .ok (.iload 7, 2) := by decide +kernel
theorem dX5_tryOut_122 : decode cX5_tryOut 122 = .ok (.invokevirtual 57, 3) := by decide +kernel
theorem dX5_tryOut_125 : decode cX5_tryOut 125 = .ok (.invokevirtual 60, 3) := by decide +kernel
theorem dX5_tryOut_128 : decode cX5_tryOut 128 = .ok (.aload_n 0, 1) := by decide +kernel
theorem dX5_tryOut_129 : decode cX5_tryOut 129 = .ok (.dup, 1) := by decide +kernel
theorem dX5_tryOut_130 : decode cX5_tryOut 130 = .ok (.getfield 48, 3) := by decide +kernel
theorem dX5_tryOut_133 : decode cX5_tryOut 133 = .ok (.iconst 1, 1) := by decide +kernel
theorem dX5_tryOut_134 : decode cX5_tryOut 134 = .ok (.iadd, 1) := by decide +kernel
theorem dX5_tryOut_135 : decode cX5_tryOut 135 = .ok (.putfield 48, 3) := by decide +kernel
theorem dX5_tryOut_138 : decode cX5_tryOut 138 = .ok (.iinc 4 1, 3) := by decide +kernel
theorem dX5_tryOut_141 : decode cX5_tryOut 141 = .ok (.goto (-120), 3) := by decide +kernel
theorem dX5_tryOut_144 : decode cX5_tryOut 144 = .ok (.iconst 1, 1) := by decide +kernel
theorem dX5_tryOut_145 : decode cX5_tryOut 145 = .ok (.ireturn, 1) := by decide +kernel
theorem dX5_begin_0 : decode cX5_begin 0 = .ok (.aload_n 0, 1) := by decide +kernel
theorem dX5_begin_1 : decode cX5_begin 1 = .ok (.getfield 12, 3) := by decide +kernel
theorem dX5_begin_4 : decode cX5_begin 4 = .ok (.aload_n 1, 1) := by decide +kernel
theorem dX5_begin_5 : decode cX5_begin 5 = .ok (.invokevirtual 64, 3) := by decide +kernel
theorem dX5_begin_8 : decode cX5_begin 8 = .ok (.aload_n 0, 1) := by decide +kernel
theorem dX5_begin_9 : decode cX5_begin 9 = .ok (.iconst 0, 1) := by decide +kernel
theorem dX5_begin_10 : decode cX5_begin 10 = .ok (.putfield 48, 3) := by decide +kernel
theorem dX5_begin_13 : decode cX5_begin 13 = .ok (.aload_n 0, 1) := by decide +kernel
theorem dX5_begin_14 : decode cX5_begin 14 = .ok (.bipush (-6), 2) := by decide +kernel
theorem dX5_begin_16 : decode cX5_begin 16 = .ok (.putfield 51, 3) := by decide +kernel
theorem dX5_begin_19 : decode cX5_begin 19 = .ok (.aload_n 0, 1) := by decide +kernel
theorem dX5_begin_20 : decode cX5_begin 20 = .ok (.bipush (-6), 2) := by decide +kernel
theorem dX5_begin_22 : decode cX5_begin 22 = .ok (.putfield 54, 3) := by decide +kernel
theorem dX5_begin_25 : decode cX5_begin 25 = .ok (.aload_n 0, 1) := by decide +kernel
theorem dX5_begin_26 : decode cX5_begin 26 = .ok (.iconst 0, 1) := by decide +kernel
theorem dX5_begin_27 : decode cX5_begin 27 = .ok (.putfield 67, 3) := by decide +kernel
theorem dX5_begin_30 : decode cX5_begin 30 = .ok (.aload_n 0, 1) := by decide +kernel
theorem dX5_begin_31 : decode cX5_begin 31 = .ok (.bipush (-6), 2) := by decide +kernel
theorem dX5_begin_33 : decode cX5_begin 33 = .ok (.putfield 70, 3) := by decide +kernel
theorem dX5_begin_36 : decode cX5_begin 36 = .ok (.aload_n 0, 1) := by decide +kernel
theorem dX5_begin_37 : decode cX5_begin 37 = .ok (.bipush (-6), 2) := by decide +kernel
theorem dX5_begin_39 : decode cX5_begin 39 = .ok (.putfield 73, 3) := by decide +kernel
theorem dX5_begin_42 : decode cX5_begin 42 = .ok (.return_, 1) := by decide +kernel
theorem dX5_noteFlares_0 : decode cX5_noteFlares 0 = .ok (.aload_n 0, 1) := by decide +kernel
theorem dX5_noteFlares_1 : decode cX5_noteFlares 1 = .ok (.dup, 1) := by decide +kernel
theorem dX5_noteFlares_2 : decode cX5_noteFlares 2 = .ok (.getfield 67, 3) := by decide +kernel
theorem dX5_noteFlares_5 : decode cX5_noteFlares 5 = .ok (.iload_n 1, 1) := by decide +kernel
theorem dX5_noteFlares_6 : decode cX5_noteFlares 6 = .ok (.invokestatic 76, 3) := by decide +kernel
theorem dX5_noteFlares_9 : decode cX5_noteFlares 9 = .ok (.iadd, 1) := by decide +kernel
theorem dX5_noteFlares_10 : decode cX5_noteFlares 10 = .ok (.putfield 67, 3) := by decide +kernel
theorem dX5_noteFlares_13 : decode cX5_noteFlares 13 = .ok (.iconst 0, 1) := by decide +kernel
theorem dX5_noteFlares_14 : decode cX5_noteFlares 14 = .ok (.istore_n 2, 1) := by decide +kernel
theorem dX5_noteFlares_15 : decode cX5_noteFlares 15 = .ok (.iload_n 2, 1) := by decide +kernel
theorem dX5_noteFlares_16 : decode cX5_noteFlares 16 = .ok (.bipush 6, 2) := by decide +kernel
theorem dX5_noteFlares_18 : decode cX5_noteFlares 18 = .ok (.if_icmp .ge 39, 3) := by decide +kernel
theorem dX5_noteFlares_21 : decode cX5_noteFlares 21 = .ok (.aload_n 0, 1) := by decide +kernel
theorem dX5_noteFlares_22 : decode cX5_noteFlares 22 = .ok (.getfield 70, 3) := by decide +kernel
theorem dX5_noteFlares_25 : decode cX5_noteFlares 25 = .ok (.bipush (-6), 2) := by decide +kernel
theorem dX5_noteFlares_27 : decode cX5_noteFlares 27 = .ok (.if_icmp .ne 30, 3) := by decide +kernel
theorem dX5_noteFlares_30 : decode cX5_noteFlares 30 = .ok (.iload_n 1, 1) := by decide +kernel
theorem dX5_noteFlares_31 : decode cX5_noteFlares 31 = .ok (.iload_n 2, 1) := by decide +kernel
theorem dX5_noteFlares_32 : decode cX5_noteFlares 32 = .ok (.invokestatic 81, 3) := by decide +kernel
theorem dX5_noteFlares_35 : decode cX5_noteFlares 35 = .ok (.ifCond .eq 16, 3) := by decide +kernel
theorem dX5_noteFlares_38 : decode cX5_noteFlares 38 = .ok (.aload_n 0, 1) := by decide +kernel
theorem dX5_noteFlares_39 : decode cX5_noteFlares 39 = .ok (.aload_n 0, 1) := by decide +kernel
theorem dX5_noteFlares_40 : decode cX5_noteFlares 40 = .ok (.getfield 48, 3) := by decide +kernel
theorem dX5_noteFlares_43 : decode cX5_noteFlares 43 = .ok (.putfield 70, 3) := by decide +kernel
theorem dX5_noteFlares_46 : decode cX5_noteFlares 46 = .ok (.aload_n 0, 1) := by decide +kernel
theorem dX5_noteFlares_47 : decode cX5_noteFlares 47 = .ok (.iload_n 2, 1) := by decide +kernel
theorem dX5_noteFlares_48 : decode cX5_noteFlares 48 = .ok (.putfield 73, 3) := by decide +kernel
theorem dX5_noteFlares_51 : decode cX5_noteFlares 51 = .ok (.iinc 2 1, 3) := by decide +kernel
theorem dX5_noteFlares_54 : decode cX5_noteFlares 54 = .ok (.goto (-39), 3) := by decide +kernel
theorem dX5_noteFlares_57 : decode cX5_noteFlares 57 = .ok (.return_, 1) := by decide +kernel
theorem dX6_init_0 : decode cX6_init 0 = .ok (.aload_n 0, 1) := by decide +kernel
theorem dX6_init_1 : decode cX6_init 1 = .ok (.invokespecial 3, 3) := by decide +kernel
theorem dX6_init_4 : decode cX6_init 4 = .ok (.aload_n 0, 1) := by decide +kernel
theorem dX6_init_5 : decode cX6_init 5 = .ok (.new 9, 3) := by decide +kernel
theorem dX6_init_8 : decode cX6_init 8 = .ok (.dup, 1) := by decide +kernel
theorem dX6_init_9 : decode cX6_init 9 = .ok (.invokespecial 11, 3) := by decide +kernel
theorem dX6_init_12 : decode cX6_init 12 = .ok (.putfield 12, 3) := by decide +kernel
theorem dX6_init_15 : decode cX6_init 15 = .ok (.aload_n 0, 1) := by decide +kernel
theorem dX6_init_16 : decode cX6_init 16 = .ok (.new 16, 3) := by decide +kernel
theorem dX6_init_19 : decode cX6_init 19 = .ok (.dup, 1) := by decide +kernel
theorem dX6_init_20 : decode cX6_init 20 = .ok (.invokespecial 18, 3) := by decide +kernel
theorem dX6_init_23 : decode cX6_init 23 = .ok (.putfield 19, 3) := by decide +kernel
theorem dX6_init_26 : decode cX6_init 26 = .ok (.aload_n 0, 1) := by decide +kernel
theorem dX6_init_27 : decode cX6_init 27 = .ok (.new 23, 3) := by decide +kernel
theorem dX6_init_30 : decode cX6_init 30 = .ok (.dup, 1) := by decide +kernel
theorem dX6_init_31 : decode cX6_init 31 = .ok (.invokespecial 25, 3) := by decide +kernel
theorem dX6_init_34 : decode cX6_init 34 = .ok (.putfield 26, 3) := by decide +kernel
theorem dX6_init_37 : decode cX6_init 37 = .ok (.aload_n 0, 1) := by decide +kernel
theorem dX6_init_38 : decode cX6_init 38 = .ok (.new 30, 3) := by decide +kernel
theorem dX6_init_41 : decode cX6_init 41 = .ok (.dup, 1) := by decide +kernel
theorem dX6_init_42 : decode cX6_init 42 = .ok (.invokespecial 32, 3) := by decide +kernel
theorem dX6_init_45 : decode cX6_init 45 = .ok (.putfield 33, 3) := by decide +kernel
theorem dX6_init_48 : decode cX6_init 48 = .ok (.aload_n 0, 1) := by decide +kernel
theorem dX6_init_49 : decode cX6_init 49 = .ok (.new 30, 3) := by decide +kernel
theorem dX6_init_52 : decode cX6_init 52 = .ok (.dup, 1) := by decide +kernel
theorem dX6_init_53 : decode cX6_init 53 = .ok (.invokespecial 32, 3) := by decide +kernel
theorem dX6_init_56 : decode cX6_init 56 = .ok (.putfield 37, 3) := by decide +kernel
theorem dX6_init_59 : decode cX6_init 59 = .ok (.aload_n 0, 1) := by decide +kernel
theorem dX6_init_60 : decode cX6_init 60 = .ok (.new 40, 3) := by decide +kernel
theorem dX6_init_63 : decode cX6_init 63 = .ok (.dup, 1) := by decide +kernel
theorem dX6_init_64 : decode cX6_init 64 = .ok (.invokespecial 42, 3) := by decide +kernel
theorem dX6_init_67 : decode cX6_init 67 = .ok (.putfield 43, 3) := by decide +kernel
theorem dX6_init_70 : decode cX6_init 70 = .ok (.aload_n 0, 1) := by decide +kernel
theorem dX6_init_71 : decode cX6_init 71 = .ok (.new 47, 3) := by decide +kernel
theorem dX6_init_74 : decode cX6_init 74 = .ok (.dup, 1) := by decide +kernel
theorem dX6_init_75 : decode cX6_init 75 = .ok (.invokespecial 49, 3) := by decide +kernel
theorem dX6_init_78 : decode cX6_init 78 = .ok (.putfield 50, 3) := by decide +kernel
theorem dX6_init_81 : decode cX6_init 81 = .ok (.aload_n 0, 1) := by decide +kernel
theorem dX6_init_82 : decode cX6_init 82 = .ok (.bipush 49, 2) := by decide +kernel
theorem dX6_init_84 : decode cX6_init 84 = .ok (.newarray .int, 2) := by decide +kernel
theorem dX6_init_86 : decode cX6_init 86 = .ok (.putfield 54, 3) := by decide +kernel
theorem dX6_init_89 : decode cX6_init 89 = .ok (.aload_n 0, 1) := by decide +kernel
theorem dX6_init_90 : decode cX6_init 90 = .ok (.bipush 61, 2) := by decide +kernel
theorem dX6_init_92 : decode cX6_init 92 = .ok (.newarray .int, 2) := by decide +kernel
theorem dX6_init_94 : decode cX6_init 94 = .ok (.putfield 58, 3) := by decide +kernel
theorem dX6_init_97 : decode cX6_init 97 = .ok (.aload_n 0, 1) := by decide +kernel
theorem dX6_init_98 : decode cX6_init 98 = .ok (.iconst 1, 1) := by decide +kernel
theorem dX6_init_99 : decode cX6_init 99 = .ok (.putfield 61, 3) := by decide +kernel
theorem dX6_init_102 : decode cX6_init 102 = .ok (.return_, 1) := by decide +kernel
theorem dX6_heap_0 : decode cX6_heap 0 = .ok (.iload_n 1, 1) := by decide +kernel
theorem dX6_heap_1 : decode cX6_heap 1 = .ok (.invokestatic 65, 3) := by decide +kernel
theorem dX6_heap_4 : decode cX6_heap 4 = .ok (.ifCond .eq 17, 3) := by decide +kernel
theorem dX6_heap_7 : decode cX6_heap 7 = .ok (.iload_n 2, 1) := by decide +kernel
theorem dX6_heap_8 : decode cX6_heap 8 = .ok (.i2l, 1) := by decide +kernel
theorem dX6_heap_9 : decode cX6_heap 9 = .ok (.ldc2_w 69, 3) := by decide +kernel
theorem dX6_heap_12 : decode cX6_heap 12 = .ok (.ldc2_w 71, 3) := by decide +kernel
theorem dX6_heap_15 : decode cX6_heap 15 = .ok (.invokestatic 73, 3) := by decide +kernel
theorem dX6_heap_18 : decode cX6_heap 18 = .ok (.ifCond .ne 5, 3) := by decide +kernel
theorem dX6_heap_21 : decode cX6_heap 21 = .ok (.iconst (-1), 1) := by decide +kernel
theorem dX6_heap_22 : decode cX6_heap 22 = .ok (.ireturn, 1) := by decide +kernel
theorem dX6_heap_23 : decode cX6_heap 23 = .ok (.iload_n 2, 1) := by decide +kernel
theorem dX6_heap_24 : decode cX6_heap 24 = .ok (.ifCond .ge 7, 3) := by decide +kernel
theorem dX6_heap_27 : decode cX6_heap 27 = .ok (.iconst 0, 1) := by decide +kernel
theorem dX6_heap_28 : decode cX6_heap 28 = .ok (.goto 5, 3) := by decide +kernel
theorem dX6_heap_31 : decode cX6_heap 31 = .ok (.bipush 9, 2) := by decide +kernel
theorem dX6_heap_33 : decode cX6_heap 33 = .ok (.istore 5, 2) := by decide +kernel
theorem dX6_heap_35 : decode cX6_heap 35 = .ok (.iload_n 3, 1) := by decide +kernel
theorem dX6_heap_36 : decode cX6_heap 36 = .ok (.i2l, 1) := by decide +kernel
theorem dX6_heap_37 : decode cX6_heap 37 = .ok (.lconst 0, 1) := by decide +kernel
theorem dX6_heap_38 : decode cX6_heap 38 = .ok (.iload 5, 2) := by decide +kernel
theorem dX6_heap_40 : decode cX6_heap 40 = .ok (.i2l, 1) := by decide +kernel
theorem dX6_heap_41 : decode cX6_heap 41 = .ok (.invokestatic 73, 3) := by decide +kernel
theorem dX6_heap_44 : decode cX6_heap 44 = .ok (.ifCond .eq 16, 3) := by decide +kernel
theorem dX6_heap_47 : decode cX6_heap 47 = .ok (.iload 4, 2) := by decide +kernel
theorem dX6_heap_49 : decode cX6_heap 49 = .ok (.i2l, 1) := by decide +kernel
theorem dX6_heap_50 : decode cX6_heap 50 = .ok (.lconst 0, 1) := by decide +kernel
theorem dX6_heap_51 : decode cX6_heap 51 = .ok (.ldc2_w 77, 3) := by decide +kernel
theorem dX6_heap_54 : decode cX6_heap 54 = .ok (.invokestatic 73, 3) := by decide +kernel
theorem dX6_heap_57 : decode cX6_heap 57 = .ok (.ifCond .ne 6, 3) := by decide +kernel
theorem dX6_heap_60 : decode cX6_heap 60 = .ok (.bipush (-2), 2) := by decide +kernel
theorem dX6_heap_62 : decode cX6_heap 62 = .ok (.ireturn, 1) := by decide +kernel
theorem dX6_heap_63 : decode cX6_heap 63 = .ok (.iload_n 2, 1) := by decide +kernel
theorem dX6_heap_64 : decode cX6_heap 64 = .ok (.ifCond .lt 18, 3) := by decide +kernel
theorem dX6_heap_67 : decode cX6_heap 67 = .ok (.aload_n 0, 1) := by decide +kernel
theorem dX6_heap_68 : decode cX6_heap 68 = .ok (.getfield 12, 3) := by decide +kernel
theorem dX6_heap_71 : decode cX6_heap 71 = .ok (.iload_n 2, 1) := by decide +kernel
theorem dX6_heap_72 : decode cX6_heap 72 = .ok (.iload_n 1, 1) := by decide +kernel
theorem dX6_heap_73 : decode cX6_heap 73 = .ok (.invokevirtual 79, 3) := by decide +kernel
theorem dX6_heap_76 : decode cX6_heap 76 = .ok (.ifCond .eq 6, 3) := by decide +kernel
theorem dX6_heap_79 : decode cX6_heap 79 = .ok (.bipush (-3), 2) := by decide +kernel
theorem dX6_heap_81 : decode cX6_heap 81 = .ok (.ireturn, 1) := by decide +kernel
theorem dX6_heap_82 : decode cX6_heap 82 = .ok (.aload_n 0, 1) := by decide +kernel
theorem dX6_heap_83 : decode cX6_heap 83 = .ok (.getfield 12, 3) := by decide +kernel
theorem dX6_heap_86 : decode cX6_heap 86 = .ok (.getfield 83, 3) := by decide +kernel
theorem dX6_heap_89 : decode cX6_heap 89 = .ok (.iload_n 1, 1) := by decide +kernel
theorem dX6_heap_90 : decode cX6_heap 90 = .ok (.iaload, 1) := by decide +kernel
theorem dX6_heap_91 : decode cX6_heap 91 = .ok (.istore 6, 2) := by decide +kernel
theorem dX6_heap_93 : decode cX6_heap 93 = .ok (.aload_n 0, 1) := by decide +kernel
theorem dX6_heap_94 : decode cX6_heap 94 = .ok (.getfield 12, 3) := by decide +kernel
theorem dX6_heap_97 : decode cX6_heap 97 = .ok (.iload_n 1, 1) := by decide +kernel
theorem dX6_heap_98 : decode cX6_heap 98 = .ok (.iload_n 2, 1) := by decide +kernel
theorem dX6_heap_99 : decode cX6_heap 99 = .ok (.ifCond .ge 8, 3) := by decide +kernel
theorem dX6_heap_102 : decode cX6_heap 102 = .ok (.bipush (-6), 2) := by decide +kernel
theorem dX6_heap_104 : decode cX6_heap 104 = .ok (.goto 4, 3) := by decide +kernel
theorem dX6_heap_107 : decode cX6_heap 107 = .ok (.iload_n 2, 1) := by decide +kernel
theorem dX6_heap_108 : decode cX6_heap 108 = .ok (.iload_n 3, 1) := by decide +kernel
theorem dX6_heap_109 : decode cX6_heap 109 = .ok (.iload 4, 2) := by decide +kernel
theorem dX6_heap_111 : decode cX6_heap 111 = .ok (.invokevirtual 86, 3) := by decide +kernel
theorem dX6_heap_114 : decode cX6_heap 114 = .ok (.iload 6, 2) := by decide +kernel
theorem dX6_heap_116 : decode cX6_heap 116 = .ok (.ireturn, 1) := by decide +kernel
theorem dX6_burners_0 : decode cX6_burners 0 = .ok (.iload_n 1, 1) := by decide +kernel
theorem dX6_burners_1 : decode cX6_burners 1 = .ok (.i2l, 1) := by decide +kernel
theorem dX6_burners_2 : decode cX6_burners 2 = .ok (.lconst 0, 1) := by decide +kernel
theorem dX6_burners_3 : decode cX6_burners 3 = .ok (.ldc2_w 90, 3) := by decide +kernel
theorem dX6_burners_6 : decode cX6_burners 6 = .ok (.invokestatic 73, 3) := by decide +kernel
theorem dX6_burners_9 : decode cX6_burners 9 = .ok (.ifCond .ne 6, 3) := by decide +kernel
theorem dX6_burners_12 : decode cX6_burners 12 = .ok (.bipush (-2), 2) := by decide +kernel
theorem dX6_burners_14 : decode cX6_burners 14 = .ok (.ireturn, 1) := by decide +kernel
theorem dX6_burners_15 : decode cX6_burners 15 = .ok (.aload_n 0, 1) := by decide +kernel
theorem dX6_burners_16 : decode cX6_burners 16 = .ok (.getfield 12, 3) := by decide +kernel
theorem dX6_burners_19 : decode cX6_burners 19 = .ok (.getfield 92, 3) := by decide +kernel
theorem dX6_burners_22 : decode cX6_burners 22 = .ok (.invokestatic 95, 3) := by decide +kernel
theorem dX6_burners_25 : decode cX6_burners 25 = .ok (.iload_n 1, 1) := by decide +kernel
theorem dX6_burners_26 : decode cX6_burners 26 = .ok (.if_icmp .le 6, 3) := by decide +kernel
theorem dX6_burners_29 : decode cX6_burners 29 = .ok (.bipush (-3), 2) := by decide +kernel
theorem dX6_burners_31 : decode cX6_burners 31 = .ok (.ireturn, 1) := by decide +kernel
theorem dX6_burners_32 : decode cX6_burners 32 = .ok (.aload_n 0, 1) := by decide +kernel
theorem dX6_burners_33 : decode cX6_burners 33 = .ok (.getfield 12, 3) := by decide +kernel
theorem dX6_burners_36 : decode cX6_burners 36 = .ok (.getfield 101, 3) := by decide +kernel
theorem dX6_burners_39 : decode cX6_burners 39 = .ok (.istore_n 2, 1) := by decide +kernel
theorem dX6_burners_40 : decode cX6_burners 40 = .ok (.aload_n 0, 1) := by decide +kernel
theorem dX6_burners_41 : decode cX6_burners 41 = .ok (.getfield 12, 3) := by decide +kernel
theorem dX6_burners_44 : decode cX6_burners 44 = .ok (.iload_n 1, 1) := by decide +kernel
theorem dX6_burners_45 : decode cX6_burners 45 = .ok (.putfield 101, 3) := by decide +kernel
theorem dX6_burners_48 : decode cX6_burners 48 = .ok (.iload_n 2, 1) := by decide +kernel
theorem dX6_burners_49 : decode cX6_burners 49 = .ok (.ireturn, 1) := by decide +kernel
theorem dX6_say_0 : decode cX6_say 0 = .ok (.iload_n 1, 1) := by decide +kernel
theorem dX6_say_1 : decode cX6_say 1 = .ok (.i2l, 1) := by decide +kernel
theorem dX6_say_2 : decode cX6_say 2 = .ok (.ldc2_w 104, 3) := by decide +kernel
theorem dX6_say_5 : decode cX6_say 5 = .ok (.ldc2_w 106, 3) := by decide +kernel
theorem dX6_say_8 : decode cX6_say 8 = .ok (.invokestatic 73, 3) := by decide +kernel
theorem dX6_say_11 : decode cX6_say 11 = .ok (.ifCond .ne 6, 3) := by decide +kernel
theorem dX6_say_14 : decode cX6_say 14 = .ok (.bipush (-2), 2) := by decide +kernel
theorem dX6_say_16 : decode cX6_say 16 = .ok (.ireturn, 1) := by decide +kernel
theorem dX6_say_17 : decode cX6_say 17 = .ok (.aload_n 0, 1) := by decide +kernel
theorem dX6_say_18 : decode cX6_say 18 = .ok (.getfield 19, 3) := by decide +kernel
theorem dX6_say_21 : decode cX6_say 21 = .ok (.iload_n 1, 1) := by decide +kernel
theorem dX6_say_22 : decode cX6_say 22 = .ok (.invokevirtual 108, 3) := by decide +kernel
theorem dX6_say_25 : decode cX6_say 25 = .ok (.ifCond .eq 13, 3) := by decide +kernel
theorem dX6_say_28 : decode cX6_say 28 = .ok (.aload_n 0, 1) := by decide +kernel
theorem dX6_say_29 : decode cX6_say 29 = .ok (.getfield 19, 3) := by decide +kernel
theorem dX6_say_32 : decode cX6_say 32 = .ok (.getfield 111, 3) := by decide +kernel
theorem dX6_say_35 : decode cX6_say 35 = .ok (.goto 5, 3) := by decide +kernel
theorem dX6_say_38 : decode cX6_say 38 = .ok (.bipush (-4), 2) := by decide +kernel
theorem dX6_say_40 : decode cX6_say 40 = .ok (.ireturn, 1) := by decide +kernel
theorem dX6_wipe_0 : decode cX6_wipe 0 = .ok (.aload_n 0, 1) := by decide +kernel
theorem dX6_wipe_1 : decode cX6_wipe 1 = .ok (.getfield 19, 3) := by decide +kernel
theorem dX6_wipe_4 : decode cX6_wipe 4 = .ok (.getfield 111, 3) := by decide +kernel
theorem dX6_wipe_7 : decode cX6_wipe 7 = .ok (.istore_n 1, 1) := by decide +kernel
theorem dX6_wipe_8 : decode cX6_wipe 8 = .ok (.aload_n 0, 1) := by decide +kernel
theorem dX6_wipe_9 : decode cX6_wipe 9 = .ok (.getfield 19, 3) := by decide +kernel
theorem dX6_wipe_12 : decode cX6_wipe 12 = .ok (.iconst 0, 1) := by decide +kernel
theorem dX6_wipe_13 : decode cX6_wipe 13 = .ok (.putfield 111, 3) := by decide +kernel
theorem dX6_wipe_16 : decode cX6_wipe 16 = .ok (.iload_n 1, 1) := by decide +kernel
theorem dX6_wipe_17 : decode cX6_wipe 17 = .ok (.ireturn, 1) := by decide +kernel
theorem dX6_fault_0 : decode cX6_fault 0 = .ok (.aload_n 0, 1) := by decide +kernel
theorem dX6_fault_1 : decode cX6_fault 1 = .ok (.getfield 19, 3) := by decide +kernel
theorem dX6_fault_4 : decode cX6_fault 4 = .ok (.invokevirtual 114, 3) := by decide +kernel
theorem dX6_fault_7 : decode cX6_fault 7 = .ok (.ireturn, 1) := by decide +kernel
theorem dX6_judge_0 : decode cX6_judge 0 = .ok (.iload_n 1, 1) := by decide +kernel
theorem dX6_judge_1 : decode cX6_judge 1 = .ok (.i2l, 1) := by decide +kernel
theorem dX6_judge_2 : decode cX6_judge 2 = .ok (.lconst 0, 1) := by decide +kernel
theorem dX6_judge_3 : decode cX6_judge 3 = .ok (.lconst 1, 1) := by decide +kernel
theorem dX6_judge_4 : decode cX6_judge 4 = .ok (.invokestatic 73, 3) := by decide +kernel
theorem dX6_judge_7 : decode cX6_judge 7 = .ok (.ifCond .ne 6, 3) := by decide +kernel
theorem dX6_judge_10 : decode cX6_judge 10 = .ok (.bipush (-2), 2) := by decide +kernel
theorem dX6_judge_12 : decode cX6_judge 12 = .ok (.ireturn, 1) := by decide +kernel
theorem dX6_judge_13 : decode cX6_judge 13 = .ok (.aload_n 0, 1) := by decide +kernel
theorem dX6_judge_14 : decode cX6_judge 14 = .ok (.getfield 19, 3) := by decide +kernel
theorem dX6_judge_17 : decode cX6_judge 17 = .ok (.invokevirtual 114, 3) := by decide +kernel
theorem dX6_judge_20 : decode cX6_judge 20 = .ok (.bipush (-6), 2) := by decide +kernel
theorem dX6_judge_22 : decode cX6_judge 22 = .ok (.if_icmp .eq 6, 3) := by decide +kernel
theorem dX6_judge_25 : decode cX6_judge 25 = .ok (.bipush (-5), 2) := by decide +kernel
theorem dX6_judge_27 : decode cX6_judge 27 = .ok (.ireturn, 1) := by decide +kernel
theorem dX6_judge_28 : decode cX6_judge 28 = .ok (.aload_n 0, 1) := by decide +kernel
theorem dX6_judge_29 : decode cX6_judge 29 = .ok (.getfield 43, 3) := by decide +kernel
theorem dX6_judge_32 : decode cX6_judge 32 = .ok (.aload_n 0, 1) := by decide +kernel
theorem dX6_judge_33 : decode cX6_judge 33 = .ok (.getfield 19, 3) := by decide +kernel
theorem dX6_judge_36 : decode cX6_judge 36 = .ok (.aload_n 0, 1) := by decide +kernel
theorem dX6_judge_37 : decode cX6_judge 37 = .ok (.getfield 12, 3) := by decide +kernel
theorem dX6_judge_40 : decode cX6_judge 40 = .ok (.invokevirtual 118, 3) := by decide +kernel
theorem dX6_judge_43 : decode cX6_judge 43 = .ok (.pop, 1) := by decide +kernel
theorem dX6_judge_44 : decode cX6_judge 44 = .ok (.iload_n 1, 1) := by decide +kernel
theorem dX6_judge_45 : decode cX6_judge 45 = .ok (.ifCond .ne 13, 3) := by decide +kernel
theorem dX6_judge_48 : decode cX6_judge 48 = .ok (.aload_n 0, 1) := by decide +kernel
theorem dX6_judge_49 : decode cX6_judge 49 = .ok (.getfield 43, 3) := by decide +kernel
theorem dX6_judge_52 : decode cX6_judge 52 = .ok (.getfield 122, 3) := by decide +kernel
theorem dX6_judge_55 : decode cX6_judge 55 = .ok (.goto 10, 3) := by decide +kernel
theorem dX6_judge_58 : decode cX6_judge 58 = .ok (.aload_n 0, 1) := by decide +kernel
theorem dX6_judge_59 : decode cX6_judge 59 = .ok (.getfield 43, 3) := by decide +kernel
theorem dX6_judge_62 : decode cX6_judge 62 = .ok (.getfield 125, 3) := by decide +kernel
theorem dX6_judge_65 : decode cX6_judge 65 = .ok (.ireturn, 1) := by decide +kernel
theorem dX6_done_0 : decode cX6_done 0 = .ok (.aload_n 0, 1) := by decide +kernel
theorem dX6_done_1 : decode cX6_done 1 = .ok (.getfield 43, 3) := by decide +kernel
theorem dX6_done_4 : decode cX6_done 4 = .ok (.aload_n 0, 1) := by decide +kernel
theorem dX6_done_5 : decode cX6_done 5 = .ok (.getfield 19, 3) := by decide +kernel
theorem dX6_done_8 : decode cX6_done 8 = .ok (.aload_n 0, 1) := by decide +kernel
theorem dX6_done_9 : decode cX6_done 9 = .ok (.getfield 12, 3) := by decide +kernel
theorem dX6_done_12 : decode cX6_done 12 = .ok (.invokevirtual 118, 3) := by decide +kernel
theorem dX6_done_15 : decode cX6_done 15 = .ok (.ifCond .ne 6, 3) := by decide +kernel
theorem dX6_done_18 : decode cX6_done 18 = .ok (.bipush (-5), 2) := by decide +kernel
theorem dX6_done_20 : decode cX6_done 20 = .ok (.ireturn, 1) := by decide +kernel
theorem dX6_done_21 : decode cX6_done 21 = .ok (.aload_n 0, 1) := by decide +kernel
theorem dX6_done_22 : decode cX6_done 22 = .ok (.getfield 12, 3) := by decide +kernel
theorem dX6_done_25 : decode cX6_done 25 = .ok (.aload_n 0, 1) := by decide +kernel
theorem dX6_done_26 : decode cX6_done 26 = .ok (.getfield 43, 3) := by decide +kernel
theorem dX6_done_29 : decode cX6_done 29 = .ok (.getfield 128, 3) := by decide +kernel
theorem dX6_done_32 : decode cX6_done 32 = .ok (.invokevirtual 131, 3) := by decide +kernel
theorem dX6_done_35 : decode cX6_done 35 = .ok (.aload_n 0, 1) := by decide +kernel
theorem dX6_done_36 : decode cX6_done 36 = .ok (.getfield 19, 3) := by decide +kernel
theorem dX6_done_39 : decode cX6_done 39 = .ok (.iconst 0, 1) := by decide +kernel
theorem dX6_done_40 : decode cX6_done 40 = .ok (.putfield 111, 3) := by decide +kernel
theorem dX6_done_43 : decode cX6_done 43 = .ok (.aload_n 0, 1) := by decide +kernel
theorem dX6_done_44 : decode cX6_done 44 = .ok (.getfield 43, 3) := by decide +kernel
theorem dX6_done_47 : decode cX6_done 47 = .ok (.getfield 135, 3) := by decide +kernel
theorem dX6_done_50 : decode cX6_done 50 = .ok (.ireturn, 1) := by decide +kernel
theorem dX6_behind_0 : decode cX6_behind 0 = .ok (.iload_n 1, 1) := by decide +kernel
theorem dX6_behind_1 : decode cX6_behind 1 = .ok (.invokestatic 65, 3) := by decide +kernel
theorem dX6_behind_4 : decode cX6_behind 4 = .ok (.ifCond .ne 5, 3) := by decide +kernel
theorem dX6_behind_7 : decode cX6_behind 7 = .ok (.iconst (-1), 1) := by decide +kernel
theorem dX6_behind_8 : decode cX6_behind 8 = .ok (.ireturn, 1) := by decide +kernel
theorem dX6_behind_9 : decode cX6_behind 9 = .ok (.iload_n 2, 1) := by decide +kernel
theorem dX6_behind_10 : decode cX6_behind 10 = .ok (.i2l, 1) := by decide +kernel
theorem dX6_behind_11 : decode cX6_behind 11 = .ok (.lconst 0, 1) := by decide +kernel
theorem dX6_behind_12 : decode cX6_behind 12 = .ok (.ldc2_w 138, 3) := by decide +kernel
theorem dX6_behind_15 : decode cX6_behind 15 = .ok (.invokestatic 73, 3) := by decide +kernel
theorem dX6_behind_18 : decode cX6_behind 18 = .ok (.ifCond .ne 6, 3) := by decide +kernel
theorem dX6_behind_21 : decode cX6_behind 21 = .ok (.bipush (-2), 2) := by decide +kernel
theorem dX6_behind_23 : decode cX6_behind 23 = .ok (.ireturn, 1) := by decide +kernel
theorem dX6_behind_24 : decode cX6_behind 24 = .ok (.aload_n 0, 1) := by decide +kernel
theorem dX6_behind_25 : decode cX6_behind 25 = .ok (.getfield 43, 3) := by decide +kernel
theorem dX6_behind_28 : decode cX6_behind 28 = .ok (.aload_n 0, 1) := by decide +kernel
theorem dX6_behind_29 : decode cX6_behind 29 = .ok (.getfield 19, 3) := by decide +kernel
theorem dX6_behind_32 : decode cX6_behind 32 = .ok (.aload_n 0, 1) := by decide +kernel
theorem dX6_behind_33 : decode cX6_behind 33 = .ok (.getfield 12, 3) := by decide +kernel
theorem dX6_behind_36 : decode cX6_behind 36 = .ok (.invokevirtual 118, 3) := by decide +kernel
theorem dX6_behind_39 : decode cX6_behind 39 = .ok (.ifCond .ne 6, 3) := by decide +kernel
theorem dX6_behind_42 : decode cX6_behind 42 = .ok (.bipush (-5), 2) := by decide +kernel
theorem dX6_behind_44 : decode cX6_behind 44 = .ok (.ireturn, 1) := by decide +kernel
theorem dX6_behind_45 : decode cX6_behind 45 = .ok (.iload_n 2, 1) := by decide +kernel
theorem dX6_behind_46 : decode cX6_behind 46 = .ok (.lookupswitch 52 #[(0, 26), (1, 39)], 26) := by decide +kernel
theorem dX6_behind_72 : decode cX6_behind 72 = .ok (.aload_n 0, 1) := by decide +kernel
theorem dX6_behind_73 : decode cX6_behind 73 = .ok (.getfield 43, 3) := by decide +kernel
theorem dX6_behind_76 : decode cX6_behind 76 = .ok (.getfield 128, 3) := by decide +kernel
theorem dX6_behind_79 : decode cX6_behind 79 = .ok (.getfield 140, 3) := by decide +kernel
theorem dX6_behind_82 : decode cX6_behind 82 = .ok (.iload_n 1, 1) := by decide +kernel
theorem dX6_behind_83 : decode cX6_behind 83 = .ok (.iaload, 1) := by decide +kernel
theorem dX6_behind_84 : decode cX6_behind 84 = .ok (.ireturn, 1) := by decide +kernel
theorem dX6_behind_85 : decode cX6_behind 85 = .ok (.aload_n 0, 1) := by decide +kernel
theorem dX6_behind_86 : decode cX6_behind 86 = .ok (.getfield 43, 3) := by decide +kernel
theorem dX6_behind_89 : decode cX6_behind 89 = .ok (.getfield 128, 3) := by decide +kernel
theorem dX6_behind_92 : decode cX6_behind 92 = .ok (.getfield 143, 3) := by decide +kernel
theorem dX6_behind_95 : decode cX6_behind 95 = .ok (.iload_n 1, 1) := by decide +kernel
theorem dX6_behind_96 : decode cX6_behind 96 = .ok (.iaload, 1) := by decide +kernel
theorem dX6_behind_97 : decode cX6_behind 97 = .ok (.ireturn, 1) := by decide +kernel
theorem dX6_behind_98 : decode cX6_behind 98 = .ok (.aload_n 0, 1) := by decide +kernel
theorem dX6_behind_99 : decode cX6_behind 99 = .ok (.getfield 43, 3) := by decide +kernel
theorem dX6_behind_102 : decode cX6_behind 102 = .ok (.getfield 128, 3) := by decide +kernel
theorem dX6_behind_105 : decode cX6_behind 105 = .ok (.getfield 83, 3) := by decide +kernel
theorem dX6_behind_108 : decode cX6_behind 108 = .ok (.iload_n 1, 1) := by decide +kernel
theorem dX6_behind_109 : decode cX6_behind 109 = .ok (.iaload, 1) := by decide +kernel
theorem dX6_behind_110 : decode cX6_behind 110 = .ok (.ireturn, 1) := by decide +kernel
theorem dX6_then_0 : decode cX6_then 0 = .ok (.iload_n 1, 1) := by decide +kernel
theorem dX6_then_1 : decode cX6_then 1 = .ok (.i2l, 1) := by decide +kernel
theorem dX6_then_2 : decode cX6_then 2 = .ok (.lconst 0, 1) := by decide +kernel
theorem dX6_then_3 : decode cX6_then 3 = .ok (.ldc2_w 90, 3) := by decide +kernel
theorem dX6_then_6 : decode cX6_then 6 = .ok (.invokestatic 73, 3) := by decide +kernel
theorem dX6_then_9 : decode cX6_then 9 = .ok (.ifCond .ne 6, 3) := by decide +kernel
theorem dX6_then_12 : decode cX6_then 12 = .ok (.bipush (-2), 2) := by decide +kernel
theorem dX6_then_14 : decode cX6_then 14 = .ok (.ireturn, 1) := by decide +kernel
theorem dX6_then_15 : decode cX6_then 15 = .ok (.aload_n 0, 1) := by decide +kernel
theorem dX6_then_16 : decode cX6_then 16 = .ok (.getfield 43, 3) := by decide +kernel
theorem dX6_then_19 : decode cX6_then 19 = .ok (.aload_n 0, 1) := by decide +kernel
theorem dX6_then_20 : decode cX6_then 20 = .ok (.getfield 19, 3) := by decide +kernel
theorem dX6_then_23 : decode cX6_then 23 = .ok (.aload_n 0, 1) := by decide +kernel
theorem dX6_then_24 : decode cX6_then 24 = .ok (.getfield 12, 3) := by decide +kernel
theorem dX6_then_27 : decode cX6_then 27 = .ok (.invokevirtual 118, 3) := by decide +kernel
theorem dX6_then_30 : decode cX6_then 30 = .ok (.ifCond .ne 6, 3) := by decide +kernel
theorem dX6_then_33 : decode cX6_then 33 = .ok (.bipush (-5), 2) := by decide +kernel
theorem dX6_then_35 : decode cX6_then 35 = .ok (.ireturn, 1) := by decide +kernel
theorem dX6_then_36 : decode cX6_then 36 = .ok (.iload_n 1, 1) := by decide +kernel
theorem dX6_then_37 : decode cX6_then 37 = .ok (.tableswitch 99 0 5 #[39, 50, 61, 72, 80, 91], 39) := by decide +kernel
theorem dX6_then_76 : decode cX6_then 76 = .ok (.aload_n 0, 1) := by decide +kernel
theorem dX6_then_77 : decode cX6_then 77 = .ok (.getfield 43, 3) := by decide +kernel
theorem dX6_then_80 : decode cX6_then 80 = .ok (.getfield 128, 3) := by decide +kernel
theorem dX6_then_83 : decode cX6_then 83 = .ok (.getfield 146, 3) := by decide +kernel
theorem dX6_then_86 : decode cX6_then 86 = .ok (.ireturn, 1) := by decide +kernel
theorem dX6_then_87 : decode cX6_then 87 = .ok (.aload_n 0, 1) := by decide +kernel
theorem dX6_then_88 : decode cX6_then 88 = .ok (.getfield 43, 3) := by decide +kernel
theorem dX6_then_91 : decode cX6_then 91 = .ok (.getfield 128, 3) := by decide +kernel
theorem dX6_then_94 : decode cX6_then 94 = .ok (.getfield 149, 3) := by decide +kernel
theorem dX6_then_97 : decode cX6_then 97 = .ok (.ireturn, 1) := by decide +kernel
theorem dX6_then_98 : decode cX6_then 98 = .ok (.aload_n 0, 1) := by decide +kernel
theorem dX6_then_99 : decode cX6_then 99 = .ok (.getfield 43, 3) := by decide +kernel
theorem dX6_then_102 : decode cX6_then 102 = .ok (.getfield 128, 3) := by decide +kernel
theorem dX6_then_105 : decode cX6_then 105 = .ok (.getfield 92, 3) := by decide +kernel
theorem dX6_then_108 : decode cX6_then 108 = .ok (.ireturn, 1) := by decide +kernel
theorem dX6_then_109 : decode cX6_then 109 = .ok (.aload_n 0, 1) := by decide +kernel
theorem dX6_then_110 : decode cX6_then 110 = .ok (.getfield 43, 3) := by decide +kernel
theorem dX6_then_113 : decode cX6_then 113 = .ok (.getfield 152, 3) := by decide +kernel
theorem dX6_then_116 : decode cX6_then 116 = .ok (.ireturn, 1) := by decide +kernel
theorem dX6_then_117 : decode cX6_then 117 = .ok (.aload_n 0, 1) := by decide +kernel
theorem dX6_then_118 : decode cX6_then 118 = .ok (.getfield 43, 3) := by decide +kernel
theorem dX6_then_121 : decode cX6_then 121 = .ok (.getfield 128, 3) := by decide +kernel
theorem dX6_then_124 : decode cX6_then 124 = .ok (.getfield 155, 3) := by decide +kernel
theorem dX6_then_127 : decode cX6_then 127 = .ok (.ireturn, 1) := by decide +kernel
theorem dX6_then_128 : decode cX6_then 128 = .ok (.aload_n 0, 1) := by decide +kernel
theorem dX6_then_129 : decode cX6_then 129 = .ok (.getfield 43, 3) := by decide +kernel
theorem dX6_then_132 : decode cX6_then 132 = .ok (.getfield 158, 3) := by decide +kernel
theorem dX6_then_135 : decode cX6_then 135 = .ok (.ireturn, 1) := by decide +kernel
theorem dX6_then_136 : decode cX6_then 136 = .ok (.aload_n 0, 1) := by decide +kernel
theorem dX6_then_137 : decode cX6_then 137 = .ok (.getfield 43, 3) := by decide +kernel
theorem dX6_then_140 : decode cX6_then 140 = .ok (.getfield 161, 3) := by decide +kernel
theorem dX6_then_143 : decode cX6_then 143 = .ok (.ireturn, 1) := by decide +kernel
theorem dX6_chain_0 : decode cX6_chain 0 = .ok (.iload_n 1, 1) := by decide +kernel
theorem dX6_chain_1 : decode cX6_chain 1 = .ok (.invokestatic 65, 3) := by decide +kernel
theorem dX6_chain_4 : decode cX6_chain 4 = .ok (.ifCond .ne 5, 3) := by decide +kernel
theorem dX6_chain_7 : decode cX6_chain 7 = .ok (.iconst (-1), 1) := by decide +kernel
theorem dX6_chain_8 : decode cX6_chain 8 = .ok (.ireturn, 1) := by decide +kernel
theorem dX6_chain_9 : decode cX6_chain 9 = .ok (.aload_n 0, 1) := by decide +kernel
theorem dX6_chain_10 : decode cX6_chain 10 = .ok (.getfield 12, 3) := by decide +kernel
theorem dX6_chain_13 : decode cX6_chain 13 = .ok (.iload_n 1, 1) := by decide +kernel
theorem dX6_chain_14 : decode cX6_chain 14 = .ok (.invokevirtual 164, 3) := by decide +kernel
theorem dX6_chain_17 : decode cX6_chain 17 = .ok (.ifCond .ne 6, 3) := by decide +kernel
theorem dX6_chain_20 : decode cX6_chain 20 = .ok (.bipush (-3), 2) := by decide +kernel
theorem dX6_chain_22 : decode cX6_chain 22 = .ok (.ireturn, 1) := by decide +kernel
theorem dX6_chain_23 : decode cX6_chain 23 = .ok (.aload_n 0, 1) := by decide +kernel
theorem dX6_chain_24 : decode cX6_chain 24 = .ok (.getfield 12, 3) := by decide +kernel
theorem dX6_chain_27 : decode cX6_chain 27 = .ok (.iload_n 1, 1) := by decide +kernel
theorem dX6_chain_28 : decode cX6_chain 28 = .ok (.iconst 0, 1) := by decide +kernel
theorem dX6_chain_29 : decode cX6_chain 29 = .ok (.invokevirtual 167, 3) := by decide +kernel
theorem dX6_chain_32 : decode cX6_chain 32 = .ok (.ireturn, 1) := by decide +kernel
theorem dX6_cover_0 : decode cX6_cover 0 = .ok (.iload_n 1, 1) := by decide +kernel
theorem dX6_cover_1 : decode cX6_cover 1 = .ok (.invokestatic 65, 3) := by decide +kernel
theorem dX6_cover_4 : decode cX6_cover 4 = .ok (.ifCond .eq 15, 3) := by decide +kernel
theorem dX6_cover_7 : decode cX6_cover 7 = .ok (.iload_n 2, 1) := by decide +kernel
theorem dX6_cover_8 : decode cX6_cover 8 = .ok (.invokestatic 65, 3) := by decide +kernel
theorem dX6_cover_11 : decode cX6_cover 11 = .ok (.ifCond .eq 8, 3) := by decide +kernel
theorem dX6_cover_14 : decode cX6_cover 14 = .ok (.iload_n 1, 1) := by decide +kernel
theorem dX6_cover_15 : decode cX6_cover 15 = .ok (.iload_n 2, 1) := by decide +kernel
theorem dX6_cover_16 : decode cX6_cover 16 = .ok (.if_icmp .ne 5, 3) := by decide +kernel
theorem dX6_cover_19 : decode cX6_cover 19 = .ok (.iconst (-1), 1) := by decide +kernel
theorem dX6_cover_20 : decode cX6_cover 20 = .ok (.ireturn, 1) := by decide +kernel
theorem dX6_cover_21 : decode cX6_cover 21 = .ok (.iload_n 3, 1) := by decide +kernel
theorem dX6_cover_22 : decode cX6_cover 22 = .ok (.i2l, 1) := by decide +kernel
theorem dX6_cover_23 : decode cX6_cover 23 = .ok (.lconst 0, 1) := by decide +kernel
theorem dX6_cover_24 : decode cX6_cover 24 = .ok (.lconst 1, 1) := by decide +kernel
theorem dX6_cover_25 : decode cX6_cover 25 = .ok (.invokestatic 73, 3) := by decide +kernel
theorem dX6_cover_28 : decode cX6_cover 28 = .ok (.ifCond .ne 6, 3) := by decide +kernel
theorem dX6_cover_31 : decode cX6_cover 31 = .ok (.bipush (-2), 2) := by decide +kernel
theorem dX6_cover_33 : decode cX6_cover 33 = .ok (.ireturn, 1) := by decide +kernel
theorem dX6_cover_34 : decode cX6_cover 34 = .ok (.aload_n 0, 1) := by decide +kernel
theorem dX6_cover_35 : decode cX6_cover 35 = .ok (.getfield 12, 3) := by decide +kernel
theorem dX6_cover_38 : decode cX6_cover 38 = .ok (.iload_n 1, 1) := by decide +kernel
theorem dX6_cover_39 : decode cX6_cover 39 = .ok (.invokevirtual 164, 3) := by decide +kernel
theorem dX6_cover_42 : decode cX6_cover 42 = .ok (.ifCond .eq 14, 3) := by decide +kernel
theorem dX6_cover_45 : decode cX6_cover 45 = .ok (.aload_n 0, 1) := by decide +kernel
theorem dX6_cover_46 : decode cX6_cover 46 = .ok (.getfield 12, 3) := by decide +kernel
theorem dX6_cover_49 : decode cX6_cover 49 = .ok (.iload_n 2, 1) := by decide +kernel
theorem dX6_cover_50 : decode cX6_cover 50 = .ok (.invokevirtual 164, 3) := by decide +kernel
theorem dX6_cover_53 : decode cX6_cover 53 = .ok (.ifCond .ne 6, 3) := by decide +kernel
theorem dX6_cover_56 : decode cX6_cover 56 = .ok (.bipush (-3), 2) := by decide +kernel
theorem dX6_cover_58 : decode cX6_cover 58 = .ok (.ireturn, 1) := by decide +kernel
theorem dX6_cover_59 : decode cX6_cover 59 = .ok (.aload_n 0, 1) := by decide +kernel
theorem dX6_cover_60 : decode cX6_cover 60 = .ok (.iload_n 1, 1) := by decide +kernel
theorem dX6_cover_61 : decode cX6_cover 61 = .ok (.iload_n 2, 1) := by decide +kernel
theorem dX6_cover_62 : decode cX6_cover 62 = .ok (.invokevirtual 171, 3) := by decide +kernel
theorem dX6_cover_65 : decode cX6_cover 65 = .ok (.istore 4, 2) := by decide +kernel
theorem dX6_cover_67 : decode cX6_cover 67 = .ok (.iload 4, 2) := by decide +kernel
theorem dX6_cover_69 : decode cX6_cover 69 = .ok (.bipush (-6), 2) := by decide +kernel
theorem dX6_cover_71 : decode cX6_cover 71 = .ok (.if_icmp .ne 6, 3) := by decide +kernel
theorem dX6_cover_74 : decode cX6_cover 74 = .ok (.bipush (-6), 2) := by decide +kernel
theorem dX6_cover_76 : decode cX6_cover 76 = .ok (.ireturn, 1) := by decide +kernel
theorem dX6_cover_77 : decode cX6_cover 77 = .ok (.iload_n 3, 1) := by decide +kernel
theorem dX6_cover_78 : decode cX6_cover 78 = .ok (.ifCond .ne 11, 3) := by decide +kernel
theorem dX6_cover_81 : decode cX6_cover 81 = .ok (.iload 4, 2) := by decide +kernel
theorem dX6_cover_83 : decode cX6_cover 83 = .ok (.invokestatic 95, 3) := by decide +kernel
theorem dX6_cover_86 : decode cX6_cover 86 = .ok (.goto 5, 3) := by decide +kernel
theorem dX6_cover_89 : decode cX6_cover 89 = .ok (.iload 4, 2) := by decide +kernel
theorem dX6_cover_91 : decode cX6_cover 91 = .ok (.ireturn, 1) := by decide +kernel
theorem dX6_fewestCovered_0 : decode cX6_fewestCovered 0 = .ok (.iconst 1, 1) := by decide +kernel
theorem dX6_fewestCovered_1 : decode cX6_fewestCovered 1 = .ok (.iload_n 1, 1) := by decide +kernel
theorem dX6_fewestCovered_2 : decode cX6_fewestCovered 2 = .ok (.ishl, 1) := by decide +kernel
theorem dX6_fewestCovered_3 : decode cX6_fewestCovered 3 = .ok (.iconst 1, 1) := by decide +kernel
theorem dX6_fewestCovered_4 : decode cX6_fewestCovered 4 = .ok (.iload_n 2, 1) := by decide +kernel
theorem dX6_fewestCovered_5 : decode cX6_fewestCovered 5 = .ok (.ishl, 1) := by decide +kernel
theorem dX6_fewestCovered_6 : decode cX6_fewestCovered 6 = .ok (.ior, 1) := by decide +kernel
theorem dX6_fewestCovered_7 : decode cX6_fewestCovered 7 = .ok (.istore_n 3, 1) := by decide +kernel
theorem dX6_fewestCovered_8 : decode cX6_fewestCovered 8 = .ok (.bipush (-6), 2) := by decide +kernel
theorem dX6_fewestCovered_10 : decode cX6_fewestCovered 10 = .ok (.istore 4, 2) := by decide +kernel
theorem dX6_fewestCovered_12 : decode cX6_fewestCovered 12 = .ok (.bipush 7, 2) := by decide +kernel
theorem dX6_fewestCovered_14 : decode cX6_fewestCovered 14 = .ok (.istore 5, 2) := by decide +kernel
theorem dX6_fewestCovered_16 : decode cX6_fewestCovered 16 = .ok (.iconst 0, 1) := by decide +kernel
theorem dX6_fewestCovered_17 : decode cX6_fewestCovered 17 = .ok (.istore 6, 2) := by decide +kernel
theorem dX6_fewestCovered_19 : decode cX6_fewestCovered 19 = .ok (.iload 6, 2) := by decide +kernel
theorem dX6_fewestCovered_21 : decode cX6_fewestCovered 21 = .ok (.bipush 64, 2) := by decide +kernel
theorem dX6_fewestCovered_23 : decode cX6_fewestCovered 23 = .ok (.if_icmp .ge 66, 3) := by decide +kernel
theorem dX6_fewestCovered_26 : decode cX6_fewestCovered 26 = .ok (.iload 6, 2) := by decide +kernel
theorem dX6_fewestCovered_28 : decode cX6_fewestCovered 28 = .ok (.iload_n 3, 1) := by decide +kernel
theorem dX6_fewestCovered_29 : decode cX6_fewestCovered 29 = .ok (.iand, 1) := by decide +kernel
theorem dX6_fewestCovered_30 : decode cX6_fewestCovered 30 = .ok (.ifCond .ne 17, 3) := by decide +kernel
theorem dX6_fewestCovered_33 : decode cX6_fewestCovered 33 = .ok (.iload 6, 2) := by decide +kernel
theorem dX6_fewestCovered_35 : decode cX6_fewestCovered 35 = .ok (.invokestatic 95, 3) := by decide +kernel
theorem dX6_fewestCovered_38 : decode cX6_fewestCovered 38 = .ok (.iload 5, 2) := by decide +kernel
theorem dX6_fewestCovered_40 : decode cX6_fewestCovered 40 = .ok (.if_icmp .ge 7, 3) := by decide +kernel
theorem dX6_fewestCovered_43 : decode cX6_fewestCovered 43 = .ok (.iconst 1, 1) := by decide +kernel
theorem dX6_fewestCovered_44 : decode cX6_fewestCovered 44 = .ok (.goto 4, 3) := by decide +kernel
theorem dX6_fewestCovered_47 : decode cX6_fewestCovered 47 = .ok (.iconst 0, 1) := by decide +kernel
theorem dX6_fewestCovered_48 : decode cX6_fewestCovered 48 = .ok (.istore 7, 2) := by decide +kernel
theorem dX6_fewestCovered_50 : decode cX6_fewestCovered 50 = .ok (.iload 7, 2) := by decide +kernel
theorem dX6_fewestCovered_52 : decode cX6_fewestCovered 52 = .ok (.ifCond .eq 31, 3) := by decide +kernel
theorem dX6_fewestCovered_55 : decode cX6_fewestCovered 55 = .ok (.aload_n 0, 1) := by decide +kernel
theorem dX6_fewestCovered_56 : decode cX6_fewestCovered 56 = .ok (.getfield 12, 3) := by decide +kernel
theorem dX6_fewestCovered_59 : decode cX6_fewestCovered 59 = .ok (.iload_n 1, 1) := by decide +kernel
theorem dX6_fewestCovered_60 : decode cX6_fewestCovered 60 = .ok (.iload 6, 2) := by decide +kernel
theorem dX6_fewestCovered_62 : decode cX6_fewestCovered 62 = .ok (.invokevirtual 167, 3) := by decide +kernel
theorem dX6_fewestCovered_65 : decode cX6_fewestCovered 65 = .ok (.iload_n 2, 1) := by decide +kernel
theorem dX6_fewestCovered_66 : decode cX6_fewestCovered 66 = .ok (.invokestatic 174, 3) := by decide +kernel
theorem dX6_fewestCovered_69 : decode cX6_fewestCovered 69 = .ok (.ifCond .ne 14, 3) := by decide +kernel
theorem dX6_fewestCovered_72 : decode cX6_fewestCovered 72 = .ok (.iload 6, 2) := by decide +kernel
theorem dX6_fewestCovered_74 : decode cX6_fewestCovered 74 = .ok (.istore 4, 2) := by decide +kernel
theorem dX6_fewestCovered_76 : decode cX6_fewestCovered 76 = .ok (.iload 6, 2) := by decide +kernel
theorem dX6_fewestCovered_78 : decode cX6_fewestCovered 78 = .ok (.invokestatic 95, 3) := by decide +kernel
theorem dX6_fewestCovered_81 : decode cX6_fewestCovered 81 = .ok (.istore 5, 2) := by decide +kernel
theorem dX6_fewestCovered_83 : decode cX6_fewestCovered 83 = .ok (.iinc 6 1, 3) := by decide +kernel
theorem dX6_fewestCovered_86 : decode cX6_fewestCovered 86 = .ok (.goto (-67), 3) := by decide +kernel
theorem dX6_fewestCovered_89 : decode cX6_fewestCovered 89 = .ok (.iload 4, 2) := by decide +kernel
theorem dX6_fewestCovered_91 : decode cX6_fewestCovered 91 = .ok (.ireturn, 1) := by decide +kernel
theorem dX6_due_0 : decode cX6_due 0 = .ok (.iload 4, 2) := by decide +kernel
theorem dX6_due_2 : decode cX6_due 2 = .ok (.i2l, 1) := by decide +kernel
theorem dX6_due_3 : decode cX6_due 3 = .ok (.lconst 1, 1) := by decide +kernel
theorem dX6_due_4 : decode cX6_due 4 = .ok (.ldc2_w 177, 3) := by decide +kernel
theorem dX6_due_7 : decode cX6_due 7 = .ok (.invokestatic 73, 3) := by decide +kernel
theorem dX6_due_10 : decode cX6_due 10 = .ok (.ifCond .eq 14, 3) := by decide +kernel
theorem dX6_due_13 : decode cX6_due 13 = .ok (.iload 5, 2) := by decide +kernel
theorem dX6_due_15 : decode cX6_due 15 = .ok (.i2l, 1) := by decide +kernel
theorem dX6_due_16 : decode cX6_due 16 = .ok (.lconst 0, 1) := by decide +kernel
theorem dX6_due_17 : decode cX6_due 17 = .ok (.lconst 1, 1) := by decide +kernel
theorem dX6_due_18 : decode cX6_due 18 = .ok (.invokestatic 73, 3) := by decide +kernel
theorem dX6_due_21 : decode cX6_due 21 = .ok (.ifCond .ne 6, 3) := by decide +kernel
theorem dX6_due_24 : decode cX6_due 24 = .ok (.bipush (-2), 2) := by decide +kernel
theorem dX6_due_26 : decode cX6_due 26 = .ok (.ireturn, 1) := by decide +kernel
theorem dX6_due_27 : decode cX6_due 27 = .ok (.aload_n 0, 1) := by decide +kernel
theorem dX6_due_28 : decode cX6_due 28 = .ok (.getfield 50, 3) := by decide +kernel
theorem dX6_due_31 : decode cX6_due 31 = .ok (.iload_n 1, 1) := by decide +kernel
theorem dX6_due_32 : decode cX6_due 32 = .ok (.iload 4, 2) := by decide +kernel
theorem dX6_due_34 : decode cX6_due 34 = .ok (.invokevirtual 179, 3) := by decide +kernel
theorem dX6_due_37 : decode cX6_due 37 = .ok (.ifCond .eq 16, 3) := by decide +kernel
theorem dX6_due_40 : decode cX6_due 40 = .ok (.aload_n 0, 1) := by decide +kernel
theorem dX6_due_41 : decode cX6_due 41 = .ok (.getfield 50, 3) := by decide +kernel
theorem dX6_due_44 : decode cX6_due 44 = .ok (.lload_n 2, 1) := by decide +kernel
theorem dX6_due_45 : decode cX6_due 45 = .ok (.iload 4, 2) := by decide +kernel
theorem dX6_due_47 : decode cX6_due 47 = .ok (.invokevirtual 182, 3) := by decide +kernel
theorem dX6_due_50 : decode cX6_due 50 = .ok (.ifCond .ne 6, 3) := by decide +kernel
theorem dX6_due_53 : decode cX6_due 53 = .ok (.bipush (-2), 2) := by decide +kernel
theorem dX6_due_55 : decode cX6_due 55 = .ok (.ireturn, 1) := by decide +kernel
theorem dX6_due_56 : decode cX6_due 56 = .ok (.aload_n 0, 1) := by decide +kernel
theorem dX6_due_57 : decode cX6_due 57 = .ok (.getfield 50, 3) := by decide +kernel
theorem dX6_due_60 : decode cX6_due 60 = .ok (.iload 4, 2) := by decide +kernel
theorem dX6_due_62 : decode cX6_due 62 = .ok (.invokevirtual 186, 3) := by decide +kernel
theorem dX6_due_65 : decode cX6_due 65 = .ok (.istore 6, 2) := by decide +kernel
theorem dX6_due_67 : decode cX6_due 67 = .ok (.iload 5, 2) := by decide +kernel
theorem dX6_due_69 : decode cX6_due 69 = .ok (.ifCond .ne 11, 3) := by decide +kernel
theorem dX6_due_72 : decode cX6_due 72 = .ok (.iload 6, 2) := by decide +kernel
theorem dX6_due_74 : decode cX6_due 74 = .ok (.invokestatic 95, 3) := by decide +kernel
theorem dX6_due_77 : decode cX6_due 77 = .ok (.goto 5, 3) := by decide +kernel
theorem dX6_due_80 : decode cX6_due 80 = .ok (.iload 6, 2) := by decide +kernel
theorem dX6_due_82 : decode cX6_due 82 = .ok (.ireturn, 1) := by decide +kernel
theorem dX6_nods_0 : decode cX6_nods 0 = .ok (.iload_n 1, 1) := by decide +kernel
theorem dX6_nods_1 : decode cX6_nods 1 = .ok (.i2l, 1) := by decide +kernel
theorem dX6_nods_2 : decode cX6_nods 2 = .ok (.lconst 1, 1) := by decide +kernel
theorem dX6_nods_3 : decode cX6_nods 3 = .ok (.ldc2_w 77, 3) := by decide +kernel
theorem dX6_nods_6 : decode cX6_nods 6 = .ok (.invokestatic 73, 3) := by decide +kernel
theorem dX6_nods_9 : decode cX6_nods 9 = .ok (.ifCond .eq 40, 3) := by decide +kernel
theorem dX6_nods_12 : decode cX6_nods 12 = .ok (.iload_n 2, 1) := by decide +kernel
theorem dX6_nods_13 : decode cX6_nods 13 = .ok (.i2l, 1) := by decide +kernel
theorem dX6_nods_14 : decode cX6_nods 14 = .ok (.lconst 1, 1) := by decide +kernel
theorem dX6_nods_15 : decode cX6_nods 15 = .ok (.ldc2_w 77, 3) := by decide +kernel
theorem dX6_nods_18 : decode cX6_nods 18 = .ok (.invokestatic 73, 3) := by decide +kernel
theorem dX6_nods_21 : decode cX6_nods 21 = .ok (.ifCond .eq 28, 3) := by decide +kernel
theorem dX6_nods_24 : decode cX6_nods 24 = .ok (.iload_n 3, 1) := by decide +kernel
theorem dX6_nods_25 : decode cX6_nods 25 = .ok (.i2l, 1) := by decide +kernel
theorem dX6_nods_26 : decode cX6_nods 26 = .ok (.lconst 1, 1) := by decide +kernel
theorem dX6_nods_27 : decode cX6_nods 27 = .ok (.ldc2_w 77, 3) := by decide +kernel
theorem dX6_nods_30 : decode cX6_nods 30 = .ok (.invokestatic 73, 3) := by decide +kernel
theorem dX6_nods_33 : decode cX6_nods 33 = .ok (.ifCond .eq 16, 3) := by decide +kernel
theorem dX6_nods_36 : decode cX6_nods 36 = .ok (.iload 4, 2) := by decide +kernel
theorem dX6_nods_38 : decode cX6_nods 38 = .ok (.i2l, 1) := by decide +kernel
theorem dX6_nods_39 : decode cX6_nods 39 = .ok (.lconst 1, 1) := by decide +kernel
theorem dX6_nods_40 : decode cX6_nods 40 = .ok (.ldc2_w 77, 3) := by decide +kernel
theorem dX6_nods_43 : decode cX6_nods 43 = .ok (.invokestatic 73, 3) := by decide +kernel
theorem dX6_nods_46 : decode cX6_nods 46 = .ok (.ifCond .ne 6, 3) := by decide +kernel
theorem dX6_nods_49 : decode cX6_nods 49 = .ok (.bipush (-2), 2) := by decide +kernel
theorem dX6_nods_51 : decode cX6_nods 51 = .ok (.ireturn, 1) := by decide +kernel
theorem dX6_nods_52 : decode cX6_nods 52 = .ok (.iload 5, 2) := by decide +kernel
theorem dX6_nods_54 : decode cX6_nods 54 = .ok (.i2l, 1) := by decide +kernel
theorem dX6_nods_55 : decode cX6_nods 55 = .ok (.lconst 0, 1) := by decide +kernel
theorem dX6_nods_56 : decode cX6_nods 56 = .ok (.ldc2_w 189, 3) := by decide +kernel
theorem dX6_nods_59 : decode cX6_nods 59 = .ok (.invokestatic 73, 3) := by decide +kernel
theorem dX6_nods_62 : decode cX6_nods 62 = .ok (.ifCond .eq 14, 3) := by decide +kernel
theorem dX6_nods_65 : decode cX6_nods 65 = .ok (.iload 6, 2) := by decide +kernel
theorem dX6_nods_67 : decode cX6_nods 67 = .ok (.i2l, 1) := by decide +kernel
theorem dX6_nods_68 : decode cX6_nods 68 = .ok (.lconst 0, 1) := by decide +kernel
theorem dX6_nods_69 : decode cX6_nods 69 = .ok (.lconst 1, 1) := by decide +kernel
theorem dX6_nods_70 : decode cX6_nods 70 = .ok (.invokestatic 73, 3) := by decide +kernel
theorem dX6_nods_73 : decode cX6_nods 73 = .ok (.ifCond .ne 6, 3) := by decide +kernel
theorem dX6_nods_76 : decode cX6_nods 76 = .ok (.bipush (-2), 2) := by decide +kernel
theorem dX6_nods_78 : decode cX6_nods 78 = .ok (.ireturn, 1) := by decide +kernel
theorem dX6_nods_79 : decode cX6_nods 79 = .ok (.iload_n 1, 1) := by decide +kernel
theorem dX6_nods_80 : decode cX6_nods 80 = .ok (.iload_n 2, 1) := by decide +kernel
theorem dX6_nods_81 : decode cX6_nods 81 = .ok (.iadd, 1) := by decide +kernel
theorem dX6_nods_82 : decode cX6_nods 82 = .ok (.iload_n 3, 1) := by decide +kernel
theorem dX6_nods_83 : decode cX6_nods 83 = .ok (.iload 4, 2) := by decide +kernel
theorem dX6_nods_85 : decode cX6_nods 85 = .ok (.iadd, 1) := by decide +kernel
theorem dX6_nods_86 : decode cX6_nods 86 = .ok (.imul, 1) := by decide +kernel
theorem dX6_nods_87 : decode cX6_nods 87 = .ok (.istore 7, 2) := by decide +kernel
theorem dX6_nods_89 : decode cX6_nods 89 = .ok (.iload 6, 2) := by decide +kernel
theorem dX6_nods_91 : decode cX6_nods 91 = .ok (.iconst 1, 1) := by decide +kernel
theorem dX6_nods_92 : decode cX6_nods 92 = .ok (.if_icmp .ne 14, 3) := by decide +kernel
theorem dX6_nods_95 : decode cX6_nods 95 = .ok (.iload_n 1, 1) := by decide +kernel
theorem dX6_nods_96 : decode cX6_nods 96 = .ok (.iload_n 2, 1) := by decide +kernel
theorem dX6_nods_97 : decode cX6_nods 97 = .ok (.iload_n 3, 1) := by decide +kernel
theorem dX6_nods_98 : decode cX6_nods 98 = .ok (.iload 4, 2) := by decide +kernel
theorem dX6_nods_100 : decode cX6_nods 100 = .ok (.iload 7, 2) := by decide +kernel
theorem dX6_nods_102 : decode cX6_nods 102 = .ok (.invokestatic 191, 3) := by decide +kernel
theorem dX6_nods_105 : decode cX6_nods 105 = .ok (.ireturn, 1) := by decide +kernel
theorem dX6_nods_106 : decode cX6_nods 106 = .ok (.iload_n 1, 1) := by decide +kernel
theorem dX6_nods_107 : decode cX6_nods 107 = .ok (.iload_n 2, 1) := by decide +kernel
theorem dX6_nods_108 : decode cX6_nods 108 = .ok (.iload_n 3, 1) := by decide +kernel
theorem dX6_nods_109 : decode cX6_nods 109 = .ok (.iload 4, 2) := by decide +kernel
theorem dX6_nods_111 : decode cX6_nods 111 = .ok (.iload 7, 2) := by decide +kernel
theorem dX6_nods_113 : decode cX6_nods 113 = .ok (.invokestatic 195, 3) := by decide +kernel
theorem dX6_nods_116 : decode cX6_nods 116 = .ok (.istore 8, 2) := by decide +kernel
theorem dX6_nods_118 : decode cX6_nods 118 = .ok (.iload 5, 2) := by decide +kernel
theorem dX6_nods_120 : decode cX6_nods 120 = .ok (.iload 7, 2) := by decide +kernel
theorem dX6_nods_122 : decode cX6_nods 122 = .ok (.idiv, 1) := by decide +kernel
theorem dX6_nods_123 : decode cX6_nods 123 = .ok (.iload 8, 2) := by decide +kernel
theorem dX6_nods_125 : decode cX6_nods 125 = .ok (.imul, 1) := by decide +kernel
theorem dX6_nods_126 : decode cX6_nods 126 = .ok (.iload_n 1, 1) := by decide +kernel
theorem dX6_nods_127 : decode cX6_nods 127 = .ok (.iload_n 2, 1) := by decide +kernel
theorem dX6_nods_128 : decode cX6_nods 128 = .ok (.iload_n 3, 1) := by decide +kernel
theorem dX6_nods_129 : decode cX6_nods 129 = .ok (.iload 4, 2) := by decide +kernel
theorem dX6_nods_131 : decode cX6_nods 131 = .ok (.iload 5, 2) := by decide +kernel
theorem dX6_nods_133 : decode cX6_nods 133 = .ok (.iload 7, 2) := by decide +kernel
theorem dX6_nods_135 : decode cX6_nods 135 = .ok (.irem, 1) := by decide +kernel
theorem dX6_nods_136 : decode cX6_nods 136 = .ok (.invokestatic 195, 3) := by decide +kernel
theorem dX6_nods_139 : decode cX6_nods 139 = .ok (.iadd, 1) := by decide +kernel
theorem dX6_nods_140 : decode cX6_nods 140 = .ok (.ireturn, 1) := by decide +kernel
theorem dX6_nightsAsleep_0 : decode cX6_nightsAsleep 0 = .ok (.iconst 0, 1) := by decide +kernel
theorem dX6_nightsAsleep_1 : decode cX6_nightsAsleep 1 = .ok (.istore 5, 2) := by decide +kernel
theorem dX6_nightsAsleep_3 : decode cX6_nightsAsleep 3 = .ok (.iconst 1, 1) := by decide +kernel
theorem dX6_nightsAsleep_4 : decode cX6_nightsAsleep 4 = .ok (.istore 6, 2) := by decide +kernel
theorem dX6_nightsAsleep_6 : decode cX6_nightsAsleep 6 = .ok (.iload 6, 2) := by decide +kernel
theorem dX6_nightsAsleep_8 : decode cX6_nightsAsleep 8 = .ok (.iload 4, 2) := by decide +kernel
theorem dX6_nightsAsleep_10 : decode cX6_nightsAsleep 10 = .ok (.if_icmp .gt 32, 3) := by decide +kernel
theorem dX6_nightsAsleep_13 : decode cX6_nightsAsleep 13 = .ok (.iload_n 0, 1) := by decide +kernel
theorem dX6_nightsAsleep_14 : decode cX6_nightsAsleep 14 = .ok (.iload_n 1, 1) := by decide +kernel
theorem dX6_nightsAsleep_15 : decode cX6_nightsAsleep 15 = .ok (.iload 6, 2) := by decide +kernel
theorem dX6_nightsAsleep_17 : decode cX6_nightsAsleep 17 = .ok (.invokestatic 198, 3) := by decide +kernel
theorem dX6_nightsAsleep_20 : decode cX6_nightsAsleep 20 = .ok (.ifCond .eq 16, 3) := by decide +kernel
theorem dX6_nightsAsleep_23 : decode cX6_nightsAsleep 23 = .ok (.iload_n 2, 1) := by decide +kernel
theorem dX6_nightsAsleep_24 : decode cX6_nightsAsleep 24 = .ok (.iload_n 3, 1) := by decide +kernel
theorem dX6_nightsAsleep_25 : decode cX6_nightsAsleep 25 = .ok (.iload 6, 2) := by decide +kernel
theorem dX6_nightsAsleep_27 : decode cX6_nightsAsleep 27 = .ok (.invokestatic 198, 3) := by decide +kernel
theorem dX6_nightsAsleep_30 : decode cX6_nightsAsleep 30 = .ok (.ifCond .eq 6, 3) := by decide +kernel
theorem dX6_nightsAsleep_33 : decode cX6_nightsAsleep 33 = .ok (.iinc 5 1, 3) := by decide +kernel
theorem dX6_nightsAsleep_36 : decode cX6_nightsAsleep 36 = .ok (.iinc 6 1, 3) := by decide +kernel
theorem dX6_nightsAsleep_39 : decode cX6_nightsAsleep 39 = .ok (.goto (-33), 3) := by decide +kernel
theorem dX6_nightsAsleep_42 : decode cX6_nightsAsleep 42 = .ok (.iload 5, 2) := by decide +kernel
theorem dX6_nightsAsleep_44 : decode cX6_nightsAsleep 44 = .ok (.ireturn, 1) := by decide +kernel
theorem dX6_firstNightAsleep_0 : decode cX6_firstNightAsleep 0 = .ok (.iconst 1, 1) := by decide +kernel
theorem dX6_firstNightAsleep_1 : decode cX6_firstNightAsleep 1 = .ok (.istore 5, 2) := by decide +kernel
theorem dX6_firstNightAsleep_3 : decode cX6_firstNightAsleep 3 = .ok (.iload 5, 2) := by decide +kernel
theorem dX6_firstNightAsleep_5 : decode cX6_firstNightAsleep 5 = .ok (.iload 4, 2) := by decide +kernel
theorem dX6_firstNightAsleep_7 : decode cX6_firstNightAsleep 7 = .ok (.if_icmp .gt 32, 3) := by decide +kernel
theorem dX6_firstNightAsleep_10 : decode cX6_firstNightAsleep 10 = .ok (.iload_n 0, 1) := by decide +kernel
theorem dX6_firstNightAsleep_11 : decode cX6_firstNightAsleep 11 = .ok (.iload_n 1, 1) := by decide +kernel
theorem dX6_firstNightAsleep_12 : decode cX6_firstNightAsleep 12 = .ok (.iload 5, 2) := by decide +kernel
theorem dX6_firstNightAsleep_14 : decode cX6_firstNightAsleep 14 = .ok (.invokestatic 198, 3) := by decide +kernel
theorem dX6_firstNightAsleep_17 : decode cX6_firstNightAsleep 17 = .ok (.ifCond .eq 16, 3) := by decide +kernel
theorem dX6_firstNightAsleep_20 : decode cX6_firstNightAsleep 20 = .ok (.iload_n 2, 1) := by decide +kernel
theorem dX6_firstNightAsleep_21 : decode cX6_firstNightAsleep 21 = .ok (.iload_n 3, 1) := by decide +kernel
theorem dX6_firstNightAsleep_22 : decode cX6_firstNightAsleep 22 = .ok (.iload 5, 2) := by decide +kernel
theorem dX6_firstNightAsleep_24 : decode cX6_firstNightAsleep 24 = .ok (.invokestatic 198, 3) := by decide +kernel
theorem dX6_firstNightAsleep_27 : decode cX6_firstNightAsleep 27 = .ok (.ifCond .eq 6, 3) := by decide +kernel
theorem dX6_firstNightAsleep_30 : decode cX6_firstNightAsleep 30 = .ok (.iload 5, 2) := by decide +kernel
theorem dX6_firstNightAsleep_32 : decode cX6_firstNightAsleep 32 = .ok (.ireturn, 1) := by decide +kernel
theorem dX6_firstNightAsleep_33 : decode cX6_firstNightAsleep 33 = .ok (.iinc 5 1, 3) := by decide +kernel
theorem dX6_firstNightAsleep_36 : decode cX6_firstNightAsleep 36 = .ok (.goto (-33), 3) := by decide +kernel
theorem dX6_firstNightAsleep_39 : decode cX6_firstNightAsleep 39 = .ok (.bipush (-6), 2) := by decide +kernel
theorem dX6_firstNightAsleep_41 : decode cX6_firstNightAsleep 41 = .ok (.ireturn, 1) := by decide +kernel
theorem dX6_isAsleep_0 : decode cX6_isAsleep 0 = .ok (.iload_n 0, 1) := by decide +kernel
theorem dX6_isAsleep_1 : decode cX6_isAsleep 1 = .ok (.iload_n 1, 1) := by decide +kernel
theorem dX6_isAsleep_2 : decode cX6_isAsleep 2 = .ok (.iadd, 1) := by decide +kernel
theorem dX6_isAsleep_3 : decode cX6_isAsleep 3 = .ok (.istore_n 3, 1) := by decide +kernel
theorem dX6_isAsleep_4 : decode cX6_isAsleep 4 = .ok (.iload_n 3, 1) := by decide +kernel
theorem dX6_isAsleep_5 : decode cX6_isAsleep 5 = .ok (.ifCond .le 16, 3) := by decide +kernel
theorem dX6_isAsleep_8 : decode cX6_isAsleep 8 = .ok (.iload_n 2, 1) := by decide +kernel
theorem dX6_isAsleep_9 : decode cX6_isAsleep 9 = .ok (.iconst 1, 1) := by decide +kernel
theorem dX6_isAsleep_10 : decode cX6_isAsleep 10 = .ok (.isub, 1) := by decide +kernel
theorem dX6_isAsleep_11 : decode cX6_isAsleep 11 = .ok (.iload_n 3, 1) := by decide +kernel
theorem dX6_isAsleep_12 : decode cX6_isAsleep 12 = .ok (.irem, 1) := by decide +kernel
theorem dX6_isAsleep_13 : decode cX6_isAsleep 13 = .ok (.iload_n 0, 1) := by decide +kernel
theorem dX6_isAsleep_14 : decode cX6_isAsleep 14 = .ok (.if_icmp .lt 7, 3) := by decide +kernel
theorem dX6_isAsleep_17 : decode cX6_isAsleep 17 = .ok (.iconst 1, 1) := by decide +kernel
theorem dX6_isAsleep_18 : decode cX6_isAsleep 18 = .ok (.goto 4, 3) := by decide +kernel
theorem dX6_isAsleep_21 : decode cX6_isAsleep 21 = .ok (.iconst 0, 1) := by decide +kernel
theorem dX6_isAsleep_22 : decode cX6_isAsleep 22 = .ok (.ireturn, 1) := by decide +kernel
theorem dX6_seen_0 : decode cX6_seen 0 = .ok (.iload_n 1, 1) := by decide +kernel
theorem dX6_seen_1 : decode cX6_seen 1 = .ok (.i2l, 1) := by decide +kernel
theorem dX6_seen_2 : decode cX6_seen 2 = .ok (.lconst 0, 1) := by decide +kernel
theorem dX6_seen_3 : decode cX6_seen 3 = .ok (.ldc2_w 202, 3) := by decide +kernel
theorem dX6_seen_6 : decode cX6_seen 6 = .ok (.invokestatic 73, 3) := by decide +kernel
theorem dX6_seen_9 : decode cX6_seen 9 = .ok (.ifCond .eq 15, 3) := by decide +kernel
theorem dX6_seen_12 : decode cX6_seen 12 = .ok (.iload_n 2, 1) := by decide +kernel
theorem dX6_seen_13 : decode cX6_seen 13 = .ok (.i2l, 1) := by decide +kernel
theorem dX6_seen_14 : decode cX6_seen 14 = .ok (.lconst 0, 1) := by decide +kernel
theorem dX6_seen_15 : decode cX6_seen 15 = .ok (.ldc2_w 90, 3) := by decide +kernel
theorem dX6_seen_18 : decode cX6_seen 18 = .ok (.invokestatic 73, 3) := by decide +kernel
theorem dX6_seen_21 : decode cX6_seen 21 = .ok (.ifCond .ne 6, 3) := by decide +kernel
theorem dX6_seen_24 : decode cX6_seen 24 = .ok (.bipush (-2), 2) := by decide +kernel
theorem dX6_seen_26 : decode cX6_seen 26 = .ok (.ireturn, 1) := by decide +kernel
theorem dX6_seen_27 : decode cX6_seen 27 = .ok (.aload_n 0, 1) := by decide +kernel
theorem dX6_seen_28 : decode cX6_seen 28 = .ok (.getfield 26, 3) := by decide +kernel
theorem dX6_seen_31 : decode cX6_seen 31 = .ok (.iload_n 1, 1) := by decide +kernel
theorem dX6_seen_32 : decode cX6_seen 32 = .ok (.iload_n 2, 1) := by decide +kernel
theorem dX6_seen_33 : decode cX6_seen 33 = .ok (.invokevirtual 204, 3) := by decide +kernel
theorem dX6_seen_36 : decode cX6_seen 36 = .ok (.ifCond .eq 13, 3) := by decide +kernel
theorem dX6_seen_39 : decode cX6_seen 39 = .ok (.aload_n 0, 1) := by decide +kernel
theorem dX6_seen_40 : decode cX6_seen 40 = .ok (.getfield 26, 3) := by decide +kernel
theorem dX6_seen_43 : decode cX6_seen 43 = .ok (.getfield 206, 3) := by decide +kernel
theorem dX6_seen_46 : decode cX6_seen 46 = .ok (.goto 5, 3) := by decide +kernel
theorem dX6_seen_49 : decode cX6_seen 49 = .ok (.bipush (-4), 2) := by decide +kernel
theorem dX6_seen_51 : decode cX6_seen 51 = .ok (.ireturn, 1) := by decide +kernel
theorem dX6_forget_0 : decode cX6_forget 0 = .ok (.aload_n 0, 1) := by decide +kernel
theorem dX6_forget_1 : decode cX6_forget 1 = .ok (.getfield 26, 3) := by decide +kernel
theorem dX6_forget_4 : decode cX6_forget 4 = .ok (.getfield 206, 3) := by decide +kernel
theorem dX6_forget_7 : decode cX6_forget 7 = .ok (.istore_n 1, 1) := by decide +kernel
theorem dX6_forget_8 : decode cX6_forget 8 = .ok (.aload_n 0, 1) := by decide +kernel
theorem dX6_forget_9 : decode cX6_forget 9 = .ok (.getfield 26, 3) := by decide +kernel
theorem dX6_forget_12 : decode cX6_forget 12 = .ok (.iconst 0, 1) := by decide +kernel
theorem dX6_forget_13 : decode cX6_forget 13 = .ok (.putfield 206, 3) := by decide +kernel
theorem dX6_forget_16 : decode cX6_forget 16 = .ok (.iload_n 1, 1) := by decide +kernel
theorem dX6_forget_17 : decode cX6_forget 17 = .ok (.ireturn, 1) := by decide +kernel
theorem dX6_matter_0 : decode cX6_matter 0 = .ok (.aload_n 0, 1) := by decide +kernel
theorem dX6_matter_1 : decode cX6_matter 1 = .ok (.getfield 26, 3) := by decide +kernel
theorem dX6_matter_4 : decode cX6_matter 4 = .ok (.aload_n 0, 1) := by decide +kernel
theorem dX6_matter_5 : decode cX6_matter 5 = .ok (.getfield 54, 3) := by decide +kernel
theorem dX6_matter_8 : decode cX6_matter 8 = .ok (.invokevirtual 207, 3) := by decide +kernel
theorem dX6_matter_11 : decode cX6_matter 11 = .ok (.istore_n 2, 1) := by decide +kernel
theorem dX6_matter_12 : decode cX6_matter 12 = .ok (.iload_n 1, 1) := by decide +kernel
theorem dX6_matter_13 : decode cX6_matter 13 = .ok (.iconst (-1), 1) := by decide +kernel
theorem dX6_matter_14 : decode cX6_matter 14 = .ok (.if_icmp .ne 5, 3) := by decide +kernel
theorem dX6_matter_17 : decode cX6_matter 17 = .ok (.iload_n 2, 1) := by decide +kernel
theorem dX6_matter_18 : decode cX6_matter 18 = .ok (.ireturn, 1) := by decide +kernel
theorem dX6_matter_19 : decode cX6_matter 19 = .ok (.iload_n 1, 1) := by decide +kernel
theorem dX6_matter_20 : decode cX6_matter 20 = .ok (.ifCond .lt 17, 3) := by decide +kernel
theorem dX6_matter_23 : decode cX6_matter 23 = .ok (.iload_n 1, 1) := by decide +kernel
theorem dX6_matter_24 : decode cX6_matter 24 = .ok (.iload_n 2, 1) := by decide +kernel
theorem dX6_matter_25 : decode cX6_matter 25 = .ok (.if_icmp .ge 12, 3) := by decide +kernel
theorem dX6_matter_28 : decode cX6_matter 28 = .ok (.aload_n 0, 1) := by decide +kernel
theorem dX6_matter_29 : decode cX6_matter 29 = .ok (.getfield 54, 3) := by decide +kernel
theorem dX6_matter_32 : decode cX6_matter 32 = .ok (.iload_n 1, 1) := by decide +kernel
theorem dX6_matter_33 : decode cX6_matter 33 = .ok (.iaload, 1) := by decide +kernel
theorem dX6_matter_34 : decode cX6_matter 34 = .ok (.goto 5, 3) := by decide +kernel
theorem dX6_matter_37 : decode cX6_matter 37 = .ok (.bipush (-6), 2) := by decide +kernel
theorem dX6_matter_39 : decode cX6_matter 39 = .ok (.ireturn, 1) := by decide +kernel
theorem dX6_ask_0 : decode cX6_ask 0 = .ok (.iload_n 1, 1) := by decide +kernel
theorem dX6_ask_1 : decode cX6_ask 1 = .ok (.i2l, 1) := by decide +kernel
theorem dX6_ask_2 : decode cX6_ask 2 = .ok (.lconst 0, 1) := by decide +kernel
theorem dX6_ask_3 : decode cX6_ask 3 = .ok (.lconst 1, 1) := by decide +kernel
theorem dX6_ask_4 : decode cX6_ask 4 = .ok (.invokestatic 73, 3) := by decide +kernel
theorem dX6_ask_7 : decode cX6_ask 7 = .ok (.ifCond .ne 6, 3) := by decide +kernel
theorem dX6_ask_10 : decode cX6_ask 10 = .ok (.bipush (-2), 2) := by decide +kernel
theorem dX6_ask_12 : decode cX6_ask 12 = .ok (.ireturn, 1) := by decide +kernel
theorem dX6_ask_13 : decode cX6_ask 13 = .ok (.aload_n 0, 1) := by decide +kernel
theorem dX6_ask_14 : decode cX6_ask 14 = .ok (.getfield 26, 3) := by decide +kernel
theorem dX6_ask_17 : decode cX6_ask 17 = .ok (.aload_n 0, 1) := by decide +kernel
theorem dX6_ask_18 : decode cX6_ask 18 = .ok (.getfield 54, 3) := by decide +kernel
theorem dX6_ask_21 : decode cX6_ask 21 = .ok (.invokevirtual 207, 3) := by decide +kernel
theorem dX6_ask_24 : decode cX6_ask 24 = .ok (.istore_n 2, 1) := by decide +kernel
theorem dX6_ask_25 : decode cX6_ask 25 = .ok (.iload_n 2, 1) := by decide +kernel
theorem dX6_ask_26 : decode cX6_ask 26 = .ok (.ifCond .ne 6, 3) := by decide +kernel
theorem dX6_ask_29 : decode cX6_ask 29 = .ok (.bipush (-6), 2) := by decide +kernel
theorem dX6_ask_31 : decode cX6_ask 31 = .ok (.ireturn, 1) := by decide +kernel
theorem dX6_ask_32 : decode cX6_ask 32 = .ok (.bipush (-6), 2) := by decide +kernel
theorem dX6_ask_34 : decode cX6_ask 34 = .ok (.istore_n 3, 1) := by decide +kernel
theorem dX6_ask_35 : decode cX6_ask 35 = .ok (.bipush 50, 2) := by decide +kernel
theorem dX6_ask_37 : decode cX6_ask 37 = .ok (.istore 4, 2) := by decide +kernel
theorem dX6_ask_39 : decode cX6_ask 39 = .ok (.iconst 0, 1) := by decide +kernel
theorem dX6_ask_40 : decode cX6_ask 40 = .ok (.istore 5, 2) := by decide +kernel
theorem dX6_ask_42 : decode cX6_ask 42 = .ok (.iload 5, 2) := by decide +kernel
theorem dX6_ask_44 : decode cX6_ask 44 = .ok (.bipush 20, 2) := by decide +kernel
theorem dX6_ask_46 : decode cX6_ask 46 = .ok (.if_icmp .gt 32, 3) := by decide +kernel
theorem dX6_ask_49 : decode cX6_ask 49 = .ok (.aload_n 0, 1) := by decide +kernel
theorem dX6_ask_50 : decode cX6_ask 50 = .ok (.iload 5, 2) := by decide +kernel
theorem dX6_ask_52 : decode cX6_ask 52 = .ok (.iload_n 2, 1) := by decide +kernel
theorem dX6_ask_53 : decode cX6_ask 53 = .ok (.invokevirtual 211, 3) := by decide +kernel
theorem dX6_ask_56 : decode cX6_ask 56 = .ok (.istore 6, 2) := by decide +kernel
theorem dX6_ask_58 : decode cX6_ask 58 = .ok (.iload 6, 2) := by decide +kernel
theorem dX6_ask_60 : decode cX6_ask 60 = .ok (.iload 4, 2) := by decide +kernel
theorem dX6_ask_62 : decode cX6_ask 62 = .ok (.if_icmp .ge 10, 3) := by decide +kernel
theorem dX6_ask_65 : decode cX6_ask 65 = .ok (.iload 5, 2) := by decide +kernel
theorem dX6_ask_67 : decode cX6_ask 67 = .ok (.istore_n 3, 1) := by decide +kernel
theorem dX6_ask_68 : decode cX6_ask 68 = .ok (.iload 6, 2) := by decide +kernel
theorem dX6_ask_70 : decode cX6_ask 70 = .ok (.istore 4, 2) := by decide +kernel
theorem dX6_ask_72 : decode cX6_ask 72 = .ok (.iinc 5 1, 3) := by decide +kernel
theorem dX6_ask_75 : decode cX6_ask 75 = .ok (.goto (-33), 3) := by decide +kernel
theorem dX6_ask_78 : decode cX6_ask 78 = .ok (.iload_n 1, 1) := by decide +kernel
theorem dX6_ask_79 : decode cX6_ask 79 = .ok (.ifCond .ne 7, 3) := by decide +kernel
theorem dX6_ask_82 : decode cX6_ask 82 = .ok (.iload_n 3, 1) := by decide +kernel
theorem dX6_ask_83 : decode cX6_ask 83 = .ok (.goto 5, 3) := by decide +kernel
theorem dX6_ask_86 : decode cX6_ask 86 = .ok (.iload 4, 2) := by decide +kernel
theorem dX6_ask_88 : decode cX6_ask 88 = .ok (.ireturn, 1) := by decide +kernel
theorem dX6_mostLeft_0 : decode cX6_mostLeft 0 = .ok (.iconst 0, 1) := by decide +kernel
theorem dX6_mostLeft_1 : decode cX6_mostLeft 1 = .ok (.istore_n 3, 1) := by decide +kernel
theorem dX6_mostLeft_2 : decode cX6_mostLeft 2 = .ok (.iconst 0, 1) := by decide +kernel
theorem dX6_mostLeft_3 : decode cX6_mostLeft 3 = .ok (.istore 4, 2) := by decide +kernel
theorem dX6_mostLeft_5 : decode cX6_mostLeft 5 = .ok (.iload 4, 2) := by decide +kernel
theorem dX6_mostLeft_7 : decode cX6_mostLeft 7 = .ok (.bipush 7, 2) := by decide +kernel
theorem dX6_mostLeft_9 : decode cX6_mostLeft 9 = .ok (.if_icmp .ge 22, 3) := by decide +kernel
theorem dX6_mostLeft_12 : decode cX6_mostLeft 12 = .ok (.iload_n 3, 1) := by decide +kernel
theorem dX6_mostLeft_13 : decode cX6_mostLeft 13 = .ok (.aload_n 0, 1) := by decide +kernel
theorem dX6_mostLeft_14 : decode cX6_mostLeft 14 = .ok (.iload_n 1, 1) := by decide +kernel
theorem dX6_mostLeft_15 : decode cX6_mostLeft 15 = .ok (.iload 4, 2) := by decide +kernel
theorem dX6_mostLeft_17 : decode cX6_mostLeft 17 = .ok (.iload_n 2, 1) := by decide +kernel
theorem dX6_mostLeft_18 : decode cX6_mostLeft 18 = .ok (.invokevirtual 214, 3) := by decide +kernel
theorem dX6_mostLeft_21 : decode cX6_mostLeft 21 = .ok (.invokestatic 218, 3) := by decide +kernel
theorem dX6_mostLeft_24 : decode cX6_mostLeft 24 = .ok (.istore_n 3, 1) := by decide +kernel
theorem dX6_mostLeft_25 : decode cX6_mostLeft 25 = .ok (.iinc 4 1, 3) := by decide +kernel
theorem dX6_mostLeft_28 : decode cX6_mostLeft 28 = .ok (.goto (-23), 3) := by decide +kernel
theorem dX6_mostLeft_31 : decode cX6_mostLeft 31 = .ok (.iload_n 3, 1) := by decide +kernel
theorem dX6_mostLeft_32 : decode cX6_mostLeft 32 = .ok (.ireturn, 1) := by decide +kernel
theorem dX6_countLeft_0 : decode cX6_countLeft 0 = .ok (.iconst 0, 1) := by decide +kernel
theorem dX6_countLeft_1 : decode cX6_countLeft 1 = .ok (.istore 4, 2) := by decide +kernel
theorem dX6_countLeft_3 : decode cX6_countLeft 3 = .ok (.iconst 0, 1) := by decide +kernel
theorem dX6_countLeft_4 : decode cX6_countLeft 4 = .ok (.istore 5, 2) := by decide +kernel
theorem dX6_countLeft_6 : decode cX6_countLeft 6 = .ok (.iload 5, 2) := by decide +kernel
theorem dX6_countLeft_8 : decode cX6_countLeft 8 = .ok (.iload_n 3, 1) := by decide +kernel
theorem dX6_countLeft_9 : decode cX6_countLeft 9 = .ok (.if_icmp .ge 47, 3) := by decide +kernel
theorem dX6_countLeft_12 : decode cX6_countLeft 12 = .ok (.iload 5, 2) := by decide +kernel
theorem dX6_countLeft_14 : decode cX6_countLeft 14 = .ok (.bipush 49, 2) := by decide +kernel
theorem dX6_countLeft_16 : decode cX6_countLeft 16 = .ok (.if_icmp .ge 40, 3) := by decide +kernel
theorem dX6_countLeft_19 : decode cX6_countLeft 19 = .ok (.aload_n 0, 1) := by decide +kernel
theorem dX6_countLeft_20 : decode cX6_countLeft 20 = .ok (.getfield 54, 3) := by decide +kernel
theorem dX6_countLeft_23 : decode cX6_countLeft 23 = .ok (.iload 5, 2) := by decide +kernel
theorem dX6_countLeft_25 : decode cX6_countLeft 25 = .ok (.iaload, 1) := by decide +kernel
theorem dX6_countLeft_26 : decode cX6_countLeft 26 = .ok (.bipush 10, 2) := by decide +kernel
theorem dX6_countLeft_28 : decode cX6_countLeft 28 = .ok (.idiv, 1) := by decide +kernel
theorem dX6_countLeft_29 : decode cX6_countLeft 29 = .ok (.aload_n 0, 1) := by decide +kernel
theorem dX6_countLeft_30 : decode cX6_countLeft 30 = .ok (.getfield 54, 3) := by decide +kernel
theorem dX6_countLeft_33 : decode cX6_countLeft 33 = .ok (.iload 5, 2) := by decide +kernel
theorem dX6_countLeft_35 : decode cX6_countLeft 35 = .ok (.iaload, 1) := by decide +kernel
theorem dX6_countLeft_36 : decode cX6_countLeft 36 = .ok (.bipush 10, 2) := by decide +kernel
theorem dX6_countLeft_38 : decode cX6_countLeft 38 = .ok (.irem, 1) := by decide +kernel
theorem dX6_countLeft_39 : decode cX6_countLeft 39 = .ok (.iload_n 1, 1) := by decide +kernel
theorem dX6_countLeft_40 : decode cX6_countLeft 40 = .ok (.invokestatic 223, 3) := by decide +kernel
theorem dX6_countLeft_43 : decode cX6_countLeft 43 = .ok (.iload_n 2, 1) := by decide +kernel
theorem dX6_countLeft_44 : decode cX6_countLeft 44 = .ok (.if_icmp .ne 6, 3) := by decide +kernel
theorem dX6_countLeft_47 : decode cX6_countLeft 47 = .ok (.iinc 4 1, 3) := by decide +kernel
theorem dX6_countLeft_50 : decode cX6_countLeft 50 = .ok (.iinc 5 1, 3) := by decide +kernel
theorem dX6_countLeft_53 : decode cX6_countLeft 53 = .ok (.goto (-47), 3) := by decide +kernel
theorem dX6_countLeft_56 : decode cX6_countLeft 56 = .ok (.iload 4, 2) := by decide +kernel
theorem dX6_countLeft_58 : decode cX6_countLeft 58 = .ok (.ireturn, 1) := by decide +kernel
theorem dX6_colourOf_0 : decode cX6_colourOf 0 = .ok (.iload_n 0, 1) := by decide +kernel
theorem dX6_colourOf_1 : decode cX6_colourOf 1 = .ok (.iload_n 1, 1) := by decide +kernel
theorem dX6_colourOf_2 : decode cX6_colourOf 2 = .ok (.iload_n 2, 1) := by decide +kernel
theorem dX6_colourOf_3 : decode cX6_colourOf 3 = .ok (.imul, 1) := by decide +kernel
theorem dX6_colourOf_4 : decode cX6_colourOf 4 = .ok (.iadd, 1) := by decide +kernel
theorem dX6_colourOf_5 : decode cX6_colourOf 5 = .ok (.bipush 7, 2) := by decide +kernel
theorem dX6_colourOf_7 : decode cX6_colourOf 7 = .ok (.irem, 1) := by decide +kernel
theorem dX6_colourOf_8 : decode cX6_colourOf 8 = .ok (.ireturn, 1) := by decide +kernel
theorem dX6_takes_0 : decode cX6_takes 0 = .ok (.iload_n 1, 1) := by decide +kernel
theorem dX6_takes_1 : decode cX6_takes 1 = .ok (.i2l, 1) := by decide +kernel
theorem dX6_takes_2 : decode cX6_takes 2 = .ok (.lconst 0, 1) := by decide +kernel
theorem dX6_takes_3 : decode cX6_takes 3 = .ok (.ldc2_w 226, 3) := by decide +kernel
theorem dX6_takes_6 : decode cX6_takes 6 = .ok (.invokestatic 73, 3) := by decide +kernel
theorem dX6_takes_9 : decode cX6_takes 9 = .ok (.ifCond .eq 13, 3) := by decide +kernel
theorem dX6_takes_12 : decode cX6_takes 12 = .ok (.iload_n 2, 1) := by decide +kernel
theorem dX6_takes_13 : decode cX6_takes 13 = .ok (.i2l, 1) := by decide +kernel
theorem dX6_takes_14 : decode cX6_takes 14 = .ok (.lconst 0, 1) := by decide +kernel
theorem dX6_takes_15 : decode cX6_takes 15 = .ok (.lconst 1, 1) := by decide +kernel
theorem dX6_takes_16 : decode cX6_takes 16 = .ok (.invokestatic 73, 3) := by decide +kernel
theorem dX6_takes_19 : decode cX6_takes 19 = .ok (.ifCond .ne 6, 3) := by decide +kernel
theorem dX6_takes_22 : decode cX6_takes 22 = .ok (.bipush (-2), 2) := by decide +kernel
theorem dX6_takes_24 : decode cX6_takes 24 = .ok (.ireturn, 1) := by decide +kernel
theorem dX6_takes_25 : decode cX6_takes 25 = .ok (.aload_n 0, 1) := by decide +kernel
theorem dX6_takes_26 : decode cX6_takes 26 = .ok (.iload_n 1, 1) := by decide +kernel
theorem dX6_takes_27 : decode cX6_takes 27 = .ok (.invokevirtual 228, 3) := by decide +kernel
theorem dX6_takes_30 : decode cX6_takes 30 = .ok (.aload_n 0, 1) := by decide +kernel
theorem dX6_takes_31 : decode cX6_takes 31 = .ok (.iload_n 1, 1) := by decide +kernel
theorem dX6_takes_32 : decode cX6_takes 32 = .ok (.invokevirtual 232, 3) := by decide +kernel
theorem dX6_takes_35 : decode cX6_takes 35 = .ok (.istore_n 3, 1) := by decide +kernel
theorem dX6_takes_36 : decode cX6_takes 36 = .ok (.iload_n 2, 1) := by decide +kernel
theorem dX6_takes_37 : decode cX6_takes 37 = .ok (.iconst 1, 1) := by decide +kernel
theorem dX6_takes_38 : decode cX6_takes 38 = .ok (.if_icmp .ne 5, 3) := by decide +kernel
theorem dX6_takes_41 : decode cX6_takes 41 = .ok (.iload_n 3, 1) := by decide +kernel
theorem dX6_takes_42 : decode cX6_takes 42 = .ok (.ireturn, 1) := by decide +kernel
theorem dX6_takes_43 : decode cX6_takes 43 = .ok (.iload_n 3, 1) := by decide +kernel
theorem dX6_takes_44 : decode cX6_takes 44 = .ok (.bipush (-6), 2) := by decide +kernel
theorem dX6_takes_46 : decode cX6_takes 46 = .ok (.if_icmp .ne 7, 3) := by decide +kernel
theorem dX6_takes_49 : decode cX6_takes 49 = .ok (.iconst 0, 1) := by decide +kernel
theorem dX6_takes_50 : decode cX6_takes 50 = .ok (.goto 4, 3) := by decide +kernel
theorem dX6_takes_53 : decode cX6_takes 53 = .ok (.iconst 1, 1) := by decide +kernel
theorem dX6_takes_54 : decode cX6_takes 54 = .ok (.ireturn, 1) := by decide +kernel
theorem dX6_winningTake_0 : decode cX6_winningTake 0 = .ok (.iconst 1, 1) := by decide +kernel
theorem dX6_winningTake_1 : decode cX6_winningTake 1 = .ok (.istore_n 2, 1) := by decide +kernel
theorem dX6_winningTake_2 : decode cX6_winningTake 2 = .ok (.iload_n 2, 1) := by decide +kernel
theorem dX6_winningTake_3 : decode cX6_winningTake 3 = .ok (.iconst 2, 1) := by decide +kernel
theorem dX6_winningTake_4 : decode cX6_winningTake 4 = .ok (.if_icmp .gt 50, 3) := by decide +kernel
theorem dX6_winningTake_7 : decode cX6_winningTake 7 = .ok (.iconst 0, 1) := by decide +kernel
theorem dX6_winningTake_8 : decode cX6_winningTake 8 = .ok (.istore_n 3, 1) := by decide +kernel
theorem dX6_winningTake_9 : decode cX6_winningTake 9 = .ok (.iload_n 3, 1) := by decide +kernel
theorem dX6_winningTake_10 : decode cX6_winningTake 10 = .ok (.iload_n 2, 1) := by decide +kernel
theorem dX6_winningTake_11 : decode cX6_winningTake 11 = .ok (.iadd, 1) := by decide +kernel
theorem dX6_winningTake_12 : decode cX6_winningTake 12 = .ok (.iload_n 1, 1) := by decide +kernel
theorem dX6_winningTake_13 : decode cX6_winningTake 13 = .ok (.if_icmp .gt 35, 3) := by decide +kernel
theorem dX6_winningTake_16 : decode cX6_winningTake 16 = .ok (.aload_n 0, 1) := by decide +kernel
theorem dX6_winningTake_17 : decode cX6_winningTake 17 = .ok (.getfield 58, 3) := by decide +kernel
theorem dX6_winningTake_20 : decode cX6_winningTake 20 = .ok (.iload_n 3, 1) := by decide +kernel
theorem dX6_winningTake_21 : decode cX6_winningTake 21 = .ok (.iaload, 1) := by decide +kernel
theorem dX6_winningTake_22 : decode cX6_winningTake 22 = .ok (.aload_n 0, 1) := by decide +kernel
theorem dX6_winningTake_23 : decode cX6_winningTake 23 = .ok (.getfield 58, 3) := by decide +kernel
theorem dX6_winningTake_26 : decode cX6_winningTake 26 = .ok (.iload_n 1, 1) := by decide +kernel
theorem dX6_winningTake_27 : decode cX6_winningTake 27 = .ok (.iload_n 2, 1) := by decide +kernel
theorem dX6_winningTake_28 : decode cX6_winningTake 28 = .ok (.isub, 1) := by decide +kernel
theorem dX6_winningTake_29 : decode cX6_winningTake 29 = .ok (.iload_n 3, 1) := by decide +kernel
theorem dX6_winningTake_30 : decode cX6_winningTake 30 = .ok (.isub, 1) := by decide +kernel
theorem dX6_winningTake_31 : decode cX6_winningTake 31 = .ok (.iaload, 1) := by decide +kernel
theorem dX6_winningTake_32 : decode cX6_winningTake 32 = .ok (.if_icmp .ne 10, 3) := by decide +kernel
theorem dX6_winningTake_35 : decode cX6_winningTake 35 = .ok (.bipush 100, 2) := by decide +kernel
theorem dX6_winningTake_37 : decode cX6_winningTake 37 = .ok (.iload_n 2, 1) := by decide +kernel
theorem dX6_winningTake_38 : decode cX6_winningTake 38 = .ok (.imul, 1) := by decide +kernel
theorem dX6_winningTake_39 : decode cX6_winningTake 39 = .ok (.iload_n 3, 1) := by decide +kernel
theorem dX6_winningTake_40 : decode cX6_winningTake 40 = .ok (.iadd, 1) := by decide +kernel
theorem dX6_winningTake_41 : decode cX6_winningTake 41 = .ok (.ireturn, 1) := by decide +kernel
theorem dX6_winningTake_42 : decode cX6_winningTake 42 = .ok (.iinc 3 1, 3) := by decide +kernel
theorem dX6_winningTake_45 : decode cX6_winningTake 45 = .ok (.goto (-36), 3) := by decide +kernel
theorem dX6_winningTake_48 : decode cX6_winningTake 48 = .ok (.iinc 2 1, 3) := by decide +kernel
theorem dX6_winningTake_51 : decode cX6_winningTake 51 = .ok (.goto (-49), 3) := by decide +kernel
theorem dX6_winningTake_54 : decode cX6_winningTake 54 = .ok (.bipush (-6), 2) := by decide +kernel
theorem dX6_winningTake_56 : decode cX6_winningTake 56 = .ok (.ireturn, 1) := by decide +kernel
theorem dX6_learnRowValues_0 : decode cX6_learnRowValues 0 = .ok (.aload_n 0, 1) := by decide +kernel
theorem dX6_learnRowValues_1 : decode cX6_learnRowValues 1 = .ok (.getfield 61, 3) := by decide +kernel
theorem dX6_learnRowValues_4 : decode cX6_learnRowValues 4 = .ok (.istore_n 2, 1) := by decide +kernel
theorem dX6_learnRowValues_5 : decode cX6_learnRowValues 5 = .ok (.iload_n 2, 1) := by decide +kernel
theorem dX6_learnRowValues_6 : decode cX6_learnRowValues 6 = .ok (.iload_n 1, 1) := by decide +kernel
theorem dX6_learnRowValues_7 : decode cX6_learnRowValues 7 = .ok (.if_icmp .gt 27, 3) := by decide +kernel
theorem dX6_learnRowValues_10 : decode cX6_learnRowValues 10 = .ok (.aload_n 0, 1) := by decide +kernel
theorem dX6_learnRowValues_11 : decode cX6_learnRowValues 11 = .ok (.getfield 58, 3) := by decide +kernel
theorem dX6_learnRowValues_14 : decode cX6_learnRowValues 14 = .ok (.iload_n 2, 1) := by decide +kernel
theorem dX6_learnRowValues_15 : decode cX6_learnRowValues 15 = .ok (.aload_n 0, 1) := by decide +kernel
theorem dX6_learnRowValues_16 : decode cX6_learnRowValues 16 = .ok (.iload_n 2, 1) := by decide +kernel
theorem dX6_learnRowValues_17 : decode cX6_learnRowValues 17 = .ok (.invokevirtual 235, 3) := by decide +kernel
theorem dX6_learnRowValues_20 : decode cX6_learnRowValues 20 = .ok (.iastore, 1) := by decide +kernel
theorem dX6_learnRowValues_21 : decode cX6_learnRowValues 21 = .ok (.aload_n 0, 1) := by decide +kernel
theorem dX6_learnRowValues_22 : decode cX6_learnRowValues 22 = .ok (.iload_n 2, 1) := by decide +kernel
theorem dX6_learnRowValues_23 : decode cX6_learnRowValues 23 = .ok (.iconst 1, 1) := by decide +kernel
theorem dX6_learnRowValues_24 : decode cX6_learnRowValues 24 = .ok (.iadd, 1) := by decide +kernel
theorem dX6_learnRowValues_25 : decode cX6_learnRowValues 25 = .ok (.putfield 61, 3) := by decide +kernel
theorem dX6_learnRowValues_28 : decode cX6_learnRowValues 28 = .ok (.iinc 2 1, 3) := by decide +kernel
theorem dX6_learnRowValues_31 : decode cX6_learnRowValues 31 = .ok (.goto (-26), 3) := by decide +kernel
theorem dX6_learnRowValues_34 : decode cX6_learnRowValues 34 = .ok (.return_, 1) := by decide +kernel
theorem dX6_leastNotReached_0 : decode cX6_leastNotReached 0 = .ok (.lconst 0, 1) := by decide +kernel
theorem dX6_leastNotReached_1 : decode cX6_leastNotReached 1 = .ok (.lstore_n 2, 1) := by decide +kernel
theorem dX6_leastNotReached_2 : decode cX6_leastNotReached 2 = .ok (.iconst 1, 1) := by decide +kernel
theorem dX6_leastNotReached_3 : decode cX6_leastNotReached 3 = .ok (.istore 4, 2) := by decide +kernel
theorem dX6_leastNotReached_5 : decode cX6_leastNotReached 5 = .ok (.iload 4, 2) := by decide +kernel
theorem dX6_leastNotReached_7 : decode cX6_leastNotReached 7 = .ok (.iconst 2, 1) := by decide +kernel
theorem dX6_leastNotReached_8 : decode cX6_leastNotReached 8 = .ok (.if_icmp .gt 52, 3) := by decide +kernel
theorem dX6_leastNotReached_11 : decode cX6_leastNotReached 11 = .ok (.iconst 0, 1) := by decide +kernel
theorem dX6_leastNotReached_12 : decode cX6_leastNotReached 12 = .ok (.istore 5, 2) := by decide +kernel
theorem dX6_leastNotReached_14 : decode cX6_leastNotReached 14 = .ok (.iload 5, 2) := by decide +kernel
theorem dX6_leastNotReached_16 : decode cX6_leastNotReached 16 = .ok (.iload 4, 2) := by decide +kernel
theorem dX6_leastNotReached_18 : decode cX6_leastNotReached 18 = .ok (.iadd, 1) := by decide +kernel
theorem dX6_leastNotReached_19 : decode cX6_leastNotReached 19 = .ok (.iload_n 1, 1) := by decide +kernel
theorem dX6_leastNotReached_20 : decode cX6_leastNotReached 20 = .ok (.if_icmp .gt 34, 3) := by decide +kernel
theorem dX6_leastNotReached_23 : decode cX6_leastNotReached 23 = .ok (.lload_n 2, 1) := by decide +kernel
theorem dX6_leastNotReached_24 : decode cX6_leastNotReached 24 = .ok (.lconst 1, 1) := by decide +kernel
theorem dX6_leastNotReached_25 : decode cX6_leastNotReached 25 = .ok (.aload_n 0, 1) := by decide +kernel
theorem dX6_leastNotReached_26 : decode cX6_leastNotReached 26 = .ok (.getfield 58, 3) := by decide +kernel
theorem dX6_leastNotReached_29 : decode cX6_leastNotReached 29 = .ok (.iload 5, 2) := by decide +kernel
theorem dX6_leastNotReached_31 : decode cX6_leastNotReached 31 = .ok (.iaload, 1) := by decide +kernel
theorem dX6_leastNotReached_32 : decode cX6_leastNotReached 32 = .ok (.aload_n 0, 1) := by decide +kernel
theorem dX6_leastNotReached_33 : decode cX6_leastNotReached 33 = .ok (.getfield 58, 3) := by decide +kernel
theorem dX6_leastNotReached_36 : decode cX6_leastNotReached 36 = .ok (.iload_n 1, 1) := by decide +kernel
theorem dX6_leastNotReached_37 : decode cX6_leastNotReached 37 = .ok (.iload 4, 2) := by decide +kernel
theorem dX6_leastNotReached_39 : decode cX6_leastNotReached 39 = .ok (.isub, 1) := by decide +kernel
theorem dX6_leastNotReached_40 : decode cX6_leastNotReached 40 = .ok (.iload 5, 2) := by decide +kernel
theorem dX6_leastNotReached_42 : decode cX6_leastNotReached 42 = .ok (.isub, 1) := by decide +kernel
theorem dX6_leastNotReached_43 : decode cX6_leastNotReached 43 = .ok (.iaload, 1) := by decide +kernel
theorem dX6_leastNotReached_44 : decode cX6_leastNotReached 44 = .ok (.ixor, 1) := by decide +kernel
theorem dX6_leastNotReached_45 : decode cX6_leastNotReached 45 = .ok (.lshl, 1) := by decide +kernel
theorem dX6_leastNotReached_46 : decode cX6_leastNotReached 46 = .ok (.lor, 1) := by decide +kernel
theorem dX6_leastNotReached_47 : decode cX6_leastNotReached 47 = .ok (.lstore_n 2, 1) := by decide +kernel
theorem dX6_leastNotReached_48 : decode cX6_leastNotReached 48 = .ok (.iinc 5 1, 3) := by decide +kernel
theorem dX6_leastNotReached_51 : decode cX6_leastNotReached 51 = .ok (.goto (-37), 3) := by decide +kernel
theorem dX6_leastNotReached_54 : decode cX6_leastNotReached 54 = .ok (.iinc 4 1, 3) := by decide +kernel
theorem dX6_leastNotReached_57 : decode cX6_leastNotReached 57 = .ok (.goto (-52), 3) := by decide +kernel
theorem dX6_leastNotReached_60 : decode cX6_leastNotReached 60 = .ok (.iconst 0, 1) := by decide +kernel
theorem dX6_leastNotReached_61 : decode cX6_leastNotReached 61 = .ok (.istore 4, 2) := by decide +kernel
theorem dX6_leastNotReached_63 : decode cX6_leastNotReached 63 = .ok (.iload 4, 2) := by decide +kernel
theorem dX6_leastNotReached_65 : decode cX6_leastNotReached 65 = .ok (.bipush 63, 2) := by decide +kernel
theorem dX6_leastNotReached_67 : decode cX6_leastNotReached 67 = .ok (.if_icmp .ge 20, 3) := by decide +kernel
theorem dX6_leastNotReached_70 : decode cX6_leastNotReached 70 = .ok (.lload_n 2, 1) := by decide +kernel
theorem dX6_leastNotReached_71 : decode cX6_leastNotReached 71 = .ok (.iload 4, 2) := by decide +kernel
theorem dX6_leastNotReached_73 : decode cX6_leastNotReached 73 = .ok (.lshr, 1) := by decide +kernel
theorem dX6_leastNotReached_74 : decode cX6_leastNotReached 74 = .ok (.lconst 1, 1) := by decide +kernel
theorem dX6_leastNotReached_75 : decode cX6_leastNotReached 75 = .ok (.land, 1) := by decide +kernel
theorem dX6_leastNotReached_76 : decode cX6_leastNotReached 76 = .ok (.lconst 0, 1) := by decide +kernel
theorem dX6_leastNotReached_77 : decode cX6_leastNotReached 77 = .ok (.lcmp, 1) := by decide +kernel
theorem dX6_leastNotReached_78 : decode cX6_leastNotReached 78 = .ok (.ifCond .eq 9, 3) := by decide +kernel
theorem dX6_leastNotReached_81 : decode cX6_leastNotReached 81 = .ok (.iinc 4 1, 3) := by decide +kernel
theorem dX6_leastNotReached_84 : decode cX6_leastNotReached 84 = .ok (.goto (-21), 3) := by decide +kernel
theorem dX6_leastNotReached_87 : decode cX6_leastNotReached 87 = .ok (.iload 4, 2) := by decide +kernel
theorem dX6_leastNotReached_89 : decode cX6_leastNotReached 89 = .ok (.ireturn, 1) := by decide +kernel
theorem dX6_lean_0 : decode cX6_lean 0 = .ok (.iload_n 1, 1) := by decide +kernel
theorem dX6_lean_1 : decode cX6_lean 1 = .ok (.i2l, 1) := by decide +kernel
theorem dX6_lean_2 : decode cX6_lean 2 = .ok (.lconst 0, 1) := by decide +kernel
theorem dX6_lean_3 : decode cX6_lean 3 = .ok (.ldc2_w 177, 3) := by decide +kernel
theorem dX6_lean_6 : decode cX6_lean 6 = .ok (.invokestatic 73, 3) := by decide +kernel
theorem dX6_lean_9 : decode cX6_lean 9 = .ok (.ifCond .eq 24, 3) := by decide +kernel
theorem dX6_lean_12 : decode cX6_lean 12 = .ok (.iload_n 2, 1) := by decide +kernel
theorem dX6_lean_13 : decode cX6_lean 13 = .ok (.i2l, 1) := by decide +kernel
theorem dX6_lean_14 : decode cX6_lean 14 = .ok (.iload_n 3, 1) := by decide +kernel
theorem dX6_lean_15 : decode cX6_lean 15 = .ok (.iconst 1, 1) := by decide +kernel
theorem dX6_lean_16 : decode cX6_lean 16 = .ok (.if_icmp .ne 7, 3) := by decide +kernel
theorem dX6_lean_19 : decode cX6_lean 19 = .ok (.lconst 1, 1) := by decide +kernel
theorem dX6_lean_20 : decode cX6_lean 20 = .ok (.goto 4, 3) := by decide +kernel
theorem dX6_lean_23 : decode cX6_lean 23 = .ok (.lconst 0, 1) := by decide +kernel
theorem dX6_lean_24 : decode cX6_lean 24 = .ok (.ldc2_w 238, 3) := by decide +kernel
theorem dX6_lean_27 : decode cX6_lean 27 = .ok (.invokestatic 73, 3) := by decide +kernel
theorem dX6_lean_30 : decode cX6_lean 30 = .ok (.ifCond .ne 7, 3) := by decide +kernel
theorem dX6_lean_33 : decode cX6_lean 33 = .ok (.ldc2_w 240, 3) := by decide +kernel
theorem dX6_lean_36 : decode cX6_lean 36 = .ok (.lreturn, 1) := by decide +kernel
theorem dX6_lean_37 : decode cX6_lean 37 = .ok (.iload_n 3, 1) := by decide +kernel
theorem dX6_lean_38 : decode cX6_lean 38 = .ok (.i2l, 1) := by decide +kernel
theorem dX6_lean_39 : decode cX6_lean 39 = .ok (.lconst 0, 1) := by decide +kernel
theorem dX6_lean_40 : decode cX6_lean 40 = .ok (.lconst 1, 1) := by decide +kernel
theorem dX6_lean_41 : decode cX6_lean 41 = .ok (.invokestatic 73, 3) := by decide +kernel
theorem dX6_lean_44 : decode cX6_lean 44 = .ok (.ifCond .eq 14, 3) := by decide +kernel
theorem dX6_lean_47 : decode cX6_lean 47 = .ok (.iload 4, 2) := by decide +kernel
theorem dX6_lean_49 : decode cX6_lean 49 = .ok (.i2l, 1) := by decide +kernel
theorem dX6_lean_50 : decode cX6_lean 50 = .ok (.lconst 0, 1) := by decide +kernel
theorem dX6_lean_51 : decode cX6_lean 51 = .ok (.lconst 1, 1) := by decide +kernel
theorem dX6_lean_52 : decode cX6_lean 52 = .ok (.invokestatic 73, 3) := by decide +kernel
theorem dX6_lean_55 : decode cX6_lean 55 = .ok (.ifCond .ne 7, 3) := by decide +kernel
theorem dX6_lean_58 : decode cX6_lean 58 = .ok (.ldc2_w 240, 3) := by decide +kernel
theorem dX6_lean_61 : decode cX6_lean 61 = .ok (.lreturn, 1) := by decide +kernel
theorem dX6_lean_62 : decode cX6_lean 62 = .ok (.iload_n 2, 1) := by decide +kernel
theorem dX6_lean_63 : decode cX6_lean 63 = .ok (.iload_n 2, 1) := by decide +kernel
theorem dX6_lean_64 : decode cX6_lean 64 = .ok (.imul, 1) := by decide +kernel
theorem dX6_lean_65 : decode cX6_lean 65 = .ok (.istore 5, 2) := by decide +kernel
theorem dX6_lean_67 : decode cX6_lean 67 = .ok (.iload_n 3, 1) := by decide +kernel
theorem dX6_lean_68 : decode cX6_lean 68 = .ok (.iconst 1, 1) := by decide +kernel
theorem dX6_lean_69 : decode cX6_lean 69 = .ok (.if_icmp .ne 15, 3) := by decide +kernel
theorem dX6_lean_72 : decode cX6_lean 72 = .ok (.ldc2_w 242, 3) := by decide +kernel
theorem dX6_lean_75 : decode cX6_lean 75 = .ok (.iload 5, 2) := by decide +kernel
theorem dX6_lean_77 : decode cX6_lean 77 = .ok (.i2l, 1) := by decide +kernel
theorem dX6_lean_78 : decode cX6_lean 78 = .ok (.iload 4, 2) := by decide +kernel
theorem dX6_lean_80 : decode cX6_lean 80 = .ok (.invokestatic 244, 3) := by decide +kernel
theorem dX6_lean_83 : decode cX6_lean 83 = .ok (.lreturn, 1) := by decide +kernel
theorem dX6_lean_84 : decode cX6_lean 84 = .ok (.lconst 1, 1) := by decide +kernel
theorem dX6_lean_85 : decode cX6_lean 85 = .ok (.lstore 6, 2) := by decide +kernel
theorem dX6_lean_87 : decode cX6_lean 87 = .ok (.lconst 1, 1) := by decide +kernel
theorem dX6_lean_88 : decode cX6_lean 88 = .ok (.lstore 8, 2) := by decide +kernel
theorem dX6_lean_90 : decode cX6_lean 90 = .ok (.iconst 0, 1) := by decide +kernel
theorem dX6_lean_91 : decode cX6_lean 91 = .ok (.istore 10, 2) := by decide +kernel
theorem dX6_lean_93 : decode cX6_lean 93 = .ok (.iload 10, 2) := by decide +kernel
theorem dX6_lean_95 : decode cX6_lean 95 = .ok (.iload_n 1, 1) := by decide +kernel
theorem dX6_lean_96 : decode cX6_lean 96 = .ok (.if_icmp .ge 28, 3) := by decide +kernel
theorem dX6_lean_99 : decode cX6_lean 99 = .ok (.lload 6, 2) := by decide +kernel
theorem dX6_lean_101 : decode cX6_lean 101 = .ok (.bipush 100, 2) := by decide +kernel
theorem dX6_lean_103 : decode cX6_lean 103 = .ok (.iload 5, 2) := by decide +kernel
theorem dX6_lean_105 : decode cX6_lean 105 = .ok (.isub, 1) := by decide +kernel
theorem dX6_lean_106 : decode cX6_lean 106 = .ok (.i2l, 1) := by decide +kernel
theorem dX6_lean_107 : decode cX6_lean 107 = .ok (.lmul, 1) := by decide +kernel
theorem dX6_lean_108 : decode cX6_lean 108 = .ok (.lstore 6, 2) := by decide +kernel
theorem dX6_lean_110 : decode cX6_lean 110 = .ok (.lload 8, 2) := by decide +kernel
theorem dX6_lean_112 : decode cX6_lean 112 = .ok (.ldc2_w 242, 3) := by decide +kernel
theorem dX6_lean_115 : decode cX6_lean 115 = .ok (.lmul, 1) := by decide +kernel
theorem dX6_lean_116 : decode cX6_lean 116 = .ok (.lstore 8, 2) := by decide +kernel
theorem dX6_lean_118 : decode cX6_lean 118 = .ok (.iinc 10 1, 3) := by decide +kernel
theorem dX6_lean_121 : decode cX6_lean 121 = .ok (.goto (-28), 3) := by decide +kernel
theorem dX6_lean_124 : decode cX6_lean 124 = .ok (.lload 6, 2) := by decide +kernel
theorem dX6_lean_126 : decode cX6_lean 126 = .ok (.lload 8, 2) := by decide +kernel
theorem dX6_lean_128 : decode cX6_lean 128 = .ok (.iload 4, 2) := by decide +kernel
theorem dX6_lean_130 : decode cX6_lean 130 = .ok (.invokestatic 244, 3) := by decide +kernel
theorem dX6_lean_133 : decode cX6_lean 133 = .ok (.lreturn, 1) := by decide +kernel
theorem dX6_inLowestTerms_0 : decode cX6_inLowestTerms 0 = .ok (.lload_n 0, 1) := by decide +kernel
theorem dX6_inLowestTerms_1 : decode cX6_inLowestTerms 1 = .ok (.lload_n 2, 1) := by decide +kernel
theorem dX6_inLowestTerms_2 : decode cX6_inLowestTerms 2 = .ok (.invokestatic 248, 3) := by decide +kernel
theorem dX6_inLowestTerms_5 : decode cX6_inLowestTerms 5 = .ok (.lstore 5, 2) := by decide +kernel
theorem dX6_inLowestTerms_7 : decode cX6_inLowestTerms 7 = .ok (.iload 4, 2) := by decide +kernel
theorem dX6_inLowestTerms_9 : decode cX6_inLowestTerms 9 = .ok (.ifCond .ne 7, 3) := by decide +kernel
theorem dX6_inLowestTerms_12 : decode cX6_inLowestTerms 12 = .ok (.lload_n 0, 1) := by decide +kernel
theorem dX6_inLowestTerms_13 : decode cX6_inLowestTerms 13 = .ok (.goto 4, 3) := by decide +kernel
theorem dX6_inLowestTerms_16 : decode cX6_inLowestTerms 16 = .ok (.lload_n 2, 1) := by decide +kernel
theorem dX6_inLowestTerms_17 : decode cX6_inLowestTerms 17 = .ok (.lstore 7, 2) := by decide +kernel
theorem dX6_inLowestTerms_19 : decode cX6_inLowestTerms 19 = .ok (.lload 5, 2) := by decide +kernel
theorem dX6_inLowestTerms_21 : decode cX6_inLowestTerms 21 = .ok (.lconst 0, 1) := by decide +kernel
theorem dX6_inLowestTerms_22 : decode cX6_inLowestTerms 22 = .ok (.lcmp, 1) := by decide +kernel
theorem dX6_inLowestTerms_23 : decode cX6_inLowestTerms 23 = .ok (.ifCond .ne 8, 3) := by decide +kernel
theorem dX6_inLowestTerms_26 : decode cX6_inLowestTerms 26 = .ok (.lload 7, 2) := by decide +kernel
theorem dX6_inLowestTerms_28 : decode cX6_inLowestTerms 28 = .ok (.goto 8, 3) := by decide +kernel
theorem dX6_inLowestTerms_31 : decode cX6_inLowestTerms 31 = .ok (.lload 7, 2) := by decide +kernel
theorem dX6_inLowestTerms_33 : decode cX6_inLowestTerms 33 = .ok (.lload 5, 2) := by decide +kernel
theorem dX6_inLowestTerms_35 : decode cX6_inLowestTerms 35 = .ok (.ldiv, 1) := by decide +kernel
theorem dX6_inLowestTerms_36 : decode cX6_inLowestTerms 36 = .ok (.lreturn, 1) := by decide +kernel
theorem dX6_greatestDivisor_0 : decode cX6_greatestDivisor 0 = .ok (.lload_n 0, 1) := by decide +kernel
theorem dX6_greatestDivisor_1 : decode cX6_greatestDivisor 1 = .ok (.lstore 4, 2) := by decide +kernel
theorem dX6_greatestDivisor_3 : decode cX6_greatestDivisor 3 = .ok (.lload_n 2, 1) := by decide +kernel
theorem dX6_greatestDivisor_4 : decode cX6_greatestDivisor 4 = .ok (.lstore 6, 2) := by decide +kernel
theorem dX6_greatestDivisor_6 : decode cX6_greatestDivisor 6 = .ok (.iconst 0, 1) := by decide +kernel
theorem dX6_greatestDivisor_7 : decode cX6_greatestDivisor 7 = .ok (.istore 8, 2) := by decide +kernel
theorem dX6_greatestDivisor_9 : decode cX6_greatestDivisor 9 = .ok (.iload 8, 2) := by decide +kernel
theorem dX6_greatestDivisor_11 : decode cX6_greatestDivisor 11 = .ok (.sipush 1000, 3) := by decide +kernel
theorem dX6_greatestDivisor_14 : decode cX6_greatestDivisor 14 = .ok (.if_icmp .ge 31, 3) := by decide +kernel
theorem dX6_greatestDivisor_17 : decode cX6_greatestDivisor 17 = .ok (.lload 6, 2) := by decide +kernel
theorem dX6_greatestDivisor_19 : decode cX6_greatestDivisor 19 = .ok (.lconst 0, 1) := by decide +kernel
theorem dX6_greatestDivisor_20 : decode cX6_greatestDivisor 20 = .ok (.lcmp, 1) := by decide +kernel
theorem dX6_greatestDivisor_21 : decode cX6_greatestDivisor 21 = .ok (.ifCond .eq 24, 3) := by decide +kernel
theorem dX6_greatestDivisor_24 : decode cX6_greatestDivisor 24 = .ok (.lload 4, 2) := by decide +kernel
theorem dX6_greatestDivisor_26 : decode cX6_greatestDivisor 26 = .ok (.lload 6, 2) := by decide +kernel
theorem dX6_greatestDivisor_28 : decode cX6_greatestDivisor 28 = .ok (.lrem, 1) := by decide +kernel
theorem dX6_greatestDivisor_29 : decode cX6_greatestDivisor 29 = .ok (.lstore 9, 2) := by decide +kernel
theorem dX6_greatestDivisor_31 : decode cX6_greatestDivisor 31 = .ok (.lload 6, 2) := by decide +kernel
theorem dX6_greatestDivisor_33 : decode cX6_greatestDivisor 33 = .ok (.lstore 4, 2) := by decide +kernel
theorem dX6_greatestDivisor_35 : decode cX6_greatestDivisor 35 = .ok (.lload 9, 2) := by decide +kernel
theorem dX6_greatestDivisor_37 : decode cX6_greatestDivisor 37 = .ok (.lstore 6, 2) := by decide +kernel
theorem dX6_greatestDivisor_39 : decode cX6_greatestDivisor 39 = .ok (.iinc 8 1, 3) := by decide +kernel
theorem dX6_greatestDivisor_42 : decode cX6_greatestDivisor 42 = .ok (.goto (-33), 3) := by decide +kernel
theorem dX6_greatestDivisor_45 : decode cX6_greatestDivisor 45 = .ok (.lload 4, 2) := by decide +kernel
theorem dX6_greatestDivisor_47 : decode cX6_greatestDivisor 47 = .ok (.lreturn, 1) := by decide +kernel
theorem dX6_year_0 : decode cX6_year 0 = .ok (.iload_n 1, 1) := by decide +kernel
theorem dX6_year_1 : decode cX6_year 1 = .ok (.i2l, 1) := by decide +kernel
theorem dX6_year_2 : decode cX6_year 2 = .ok (.lconst 0, 1) := by decide +kernel
theorem dX6_year_3 : decode cX6_year 3 = .ok (.ldc2_w 189, 3) := by decide +kernel
theorem dX6_year_6 : decode cX6_year 6 = .ok (.invokestatic 73, 3) := by decide +kernel
theorem dX6_year_9 : decode cX6_year 9 = .ok (.ifCond .eq 27, 3) := by decide +kernel
theorem dX6_year_12 : decode cX6_year 12 = .ok (.iload_n 2, 1) := by decide +kernel
theorem dX6_year_13 : decode cX6_year 13 = .ok (.i2l, 1) := by decide +kernel
theorem dX6_year_14 : decode cX6_year 14 = .ok (.lconst 1, 1) := by decide +kernel
theorem dX6_year_15 : decode cX6_year 15 = .ok (.ldc2_w 252, 3) := by decide +kernel
theorem dX6_year_18 : decode cX6_year 18 = .ok (.invokestatic 73, 3) := by decide +kernel
theorem dX6_year_21 : decode cX6_year 21 = .ok (.ifCond .eq 15, 3) := by decide +kernel
theorem dX6_year_24 : decode cX6_year 24 = .ok (.iload_n 3, 1) := by decide +kernel
theorem dX6_year_25 : decode cX6_year 25 = .ok (.i2l, 1) := by decide +kernel
theorem dX6_year_26 : decode cX6_year 26 = .ok (.lconst 0, 1) := by decide +kernel
theorem dX6_year_27 : decode cX6_year 27 = .ok (.ldc2_w 138, 3) := by decide +kernel
theorem dX6_year_30 : decode cX6_year 30 = .ok (.invokestatic 73, 3) := by decide +kernel
theorem dX6_year_33 : decode cX6_year 33 = .ok (.ifCond .ne 6, 3) := by decide +kernel
theorem dX6_year_36 : decode cX6_year 36 = .ok (.bipush (-2), 2) := by decide +kernel
theorem dX6_year_38 : decode cX6_year 38 = .ok (.ireturn, 1) := by decide +kernel
theorem dX6_year_39 : decode cX6_year 39 = .ok (.aload_n 0, 1) := by decide +kernel
theorem dX6_year_40 : decode cX6_year 40 = .ok (.getfield 43, 3) := by decide +kernel
theorem dX6_year_43 : decode cX6_year 43 = .ok (.getfield 128, 3) := by decide +kernel
theorem dX6_year_46 : decode cX6_year 46 = .ok (.astore 4, 2) := by decide +kernel
theorem dX6_year_48 : decode cX6_year 48 = .ok (.aload 4, 2) := by decide +kernel
theorem dX6_year_50 : decode cX6_year 50 = .ok (.aload_n 0, 1) := by decide +kernel
theorem dX6_year_51 : decode cX6_year 51 = .ok (.getfield 12, 3) := by decide +kernel
theorem dX6_year_54 : decode cX6_year 54 = .ok (.invokevirtual 131, 3) := by decide +kernel
theorem dX6_year_57 : decode cX6_year 57 = .ok (.iload_n 1, 1) := by decide +kernel
theorem dX6_year_58 : decode cX6_year 58 = .ok (.istore 5, 2) := by decide +kernel
theorem dX6_year_60 : decode cX6_year 60 = .ok (.iconst 0, 1) := by decide +kernel
theorem dX6_year_61 : decode cX6_year 61 = .ok (.istore 6, 2) := by decide +kernel
theorem dX6_year_63 : decode cX6_year 63 = .ok (.iload 6, 2) := by decide +kernel
theorem dX6_year_65 : decode cX6_year 65 = .ok (.iload_n 2, 1) := by decide +kernel
theorem dX6_year_66 : decode cX6_year 66 = .ok (.if_icmp .ge 81, 3) := by decide +kernel
theorem dX6_year_69 : decode cX6_year 69 = .ok (.bipush 75, 2) := by decide +kernel
theorem dX6_year_71 : decode cX6_year 71 = .ok (.iload 5, 2) := by decide +kernel
theorem dX6_year_73 : decode cX6_year 73 = .ok (.imul, 1) := by decide +kernel
theorem dX6_year_74 : decode cX6_year 74 = .ok (.bipush 74, 2) := by decide +kernel
theorem dX6_year_76 : decode cX6_year 76 = .ok (.iadd, 1) := by decide +kernel
theorem dX6_year_77 : decode cX6_year 77 = .ok (.ldc 254, 2) := by decide +kernel
theorem dX6_year_79 : decode cX6_year 79 = .ok (.irem, 1) := by decide +kernel
theorem dX6_year_80 : decode cX6_year 80 = .ok (.istore 5, 2) := by decide +kernel
theorem dX6_year_82 : decode cX6_year 82 = .ok (.iload 5, 2) := by decide +kernel
theorem dX6_year_84 : decode cX6_year 84 = .ok (.bipush 6, 2) := by decide +kernel
theorem dX6_year_86 : decode cX6_year 86 = .ok (.invokestatic 255, 3) := by decide +kernel
theorem dX6_year_89 : decode cX6_year 89 = .ok (.istore 7, 2) := by decide +kernel
theorem dX6_year_91 : decode cX6_year 91 = .ok (.iload 5, 2) := by decide +kernel
theorem dX6_year_93 : decode cX6_year 93 = .ok (.bipush 6, 2) := by decide +kernel
theorem dX6_year_95 : decode cX6_year 95 = .ok (.idiv, 1) := by decide +kernel
theorem dX6_year_96 : decode cX6_year 96 = .ok (.bipush 8, 2) := by decide +kernel
theorem dX6_year_98 : decode cX6_year 98 = .ok (.irem, 1) := by decide +kernel
theorem dX6_year_99 : decode cX6_year 99 = .ok (.iconst 5, 1) := by decide +kernel
theorem dX6_year_100 : decode cX6_year 100 = .ok (.invokestatic 258, 3) := by decide +kernel
theorem dX6_year_103 : decode cX6_year 103 = .ok (.istore 8, 2) := by decide +kernel
theorem dX6_year_105 : decode cX6_year 105 = .ok (.iload 5, 2) := by decide +kernel
theorem dX6_year_107 : decode cX6_year 107 = .ok (.bipush 48, 2) := by decide +kernel
theorem dX6_year_109 : decode cX6_year 109 = .ok (.idiv, 1) := by decide +kernel
theorem dX6_year_110 : decode cX6_year 110 = .ok (.bipush 25, 2) := by decide +kernel
theorem dX6_year_112 : decode cX6_year 112 = .ok (.irem, 1) := by decide +kernel
theorem dX6_year_113 : decode cX6_year 113 = .ok (.istore 9, 2) := by decide +kernel
theorem dX6_year_115 : decode cX6_year 115 = .ok (.aload 4, 2) := by decide +kernel
theorem dX6_year_117 : decode cX6_year 117 = .ok (.iload 8, 2) := by decide +kernel
theorem dX6_year_119 : decode cX6_year 119 = .ok (.iload 7, 2) := by decide +kernel
theorem dX6_year_121 : decode cX6_year 121 = .ok (.iload 9, 2) := by decide +kernel
theorem dX6_year_123 : decode cX6_year 123 = .ok (.invokevirtual 261, 3) := by decide +kernel
theorem dX6_year_126 : decode cX6_year 126 = .ok (.ifCond .ne 15, 3) := by decide +kernel
theorem dX6_year_129 : decode cX6_year 129 = .ok (.aload 4, 2) := by decide +kernel
theorem dX6_year_131 : decode cX6_year 131 = .ok (.iload 8, 2) := by decide +kernel
theorem dX6_year_133 : decode cX6_year 133 = .ok (.iload 7, 2) := by decide +kernel
theorem dX6_year_135 : decode cX6_year 135 = .ok (.iload 9, 2) := by decide +kernel
theorem dX6_year_137 : decode cX6_year 137 = .ok (.invokevirtual 264, 3) := by decide +kernel
theorem dX6_year_140 : decode cX6_year 140 = .ok (.pop, 1) := by decide +kernel
theorem dX6_year_141 : decode cX6_year 141 = .ok (.iinc 6 1, 3) := by decide +kernel
theorem dX6_year_144 : decode cX6_year 144 = .ok (.goto (-81), 3) := by decide +kernel
theorem dX6_year_147 : decode cX6_year 147 = .ok (.iload_n 3, 1) := by decide +kernel
theorem dX6_year_148 : decode cX6_year 148 = .ok (.lookupswitch 46 #[(0, 28), (1, 37)], 28) := by decide +kernel
theorem dX6_year_176 : decode cX6_year 176 = .ok (.aload 4, 2) := by decide +kernel
theorem dX6_year_178 : decode cX6_year 178 = .ok (.getfield 146, 3) := by decide +kernel
theorem dX6_year_181 : decode cX6_year 181 = .ok (.invokestatic 95, 3) := by decide +kernel
theorem dX6_year_184 : decode cX6_year 184 = .ok (.ireturn, 1) := by decide +kernel
theorem dX6_year_185 : decode cX6_year 185 = .ok (.aload 4, 2) := by decide +kernel
theorem dX6_year_187 : decode cX6_year 187 = .ok (.getfield 149, 3) := by decide +kernel
theorem dX6_year_190 : decode cX6_year 190 = .ok (.invokestatic 95, 3) := by decide +kernel
theorem dX6_year_193 : decode cX6_year 193 = .ok (.ireturn, 1) := by decide +kernel
theorem dX6_year_194 : decode cX6_year 194 = .ok (.aload 4, 2) := by decide +kernel
theorem dX6_year_196 : decode cX6_year 196 = .ok (.invokevirtual 267, 3) := by decide +kernel
theorem dX6_year_199 : decode cX6_year 199 = .ok (.ireturn, 1) := by decide +kernel
theorem dX6_image_0 : decode cX6_image 0 = .ok (.iload_n 1, 1) := by decide +kernel
theorem dX6_image_1 : decode cX6_image 1 = .ok (.i2l, 1) := by decide +kernel
theorem dX6_image_2 : decode cX6_image 2 = .ok (.lconst 0, 1) := by decide +kernel
theorem dX6_image_3 : decode cX6_image 3 = .ok (.lconst 1, 1) := by decide +kernel
theorem dX6_image_4 : decode cX6_image 4 = .ok (.invokestatic 73, 3) := by decide +kernel
theorem dX6_image_7 : decode cX6_image 7 = .ok (.ifCond .ne 6, 3) := by decide +kernel
theorem dX6_image_10 : decode cX6_image 10 = .ok (.bipush (-2), 2) := by decide +kernel
theorem dX6_image_12 : decode cX6_image 12 = .ok (.ireturn, 1) := by decide +kernel
theorem dX6_image_13 : decode cX6_image 13 = .ok (.iload_n 1, 1) := by decide +kernel
theorem dX6_image_14 : decode cX6_image 14 = .ok (.ifCond .ne 10, 3) := by decide +kernel
theorem dX6_image_17 : decode cX6_image 17 = .ok (.aload_n 0, 1) := by decide +kernel
theorem dX6_image_18 : decode cX6_image 18 = .ok (.getfield 33, 3) := by decide +kernel
theorem dX6_image_21 : decode cX6_image 21 = .ok (.goto 7, 3) := by decide +kernel
theorem dX6_image_24 : decode cX6_image 24 = .ok (.aload_n 0, 1) := by decide +kernel
theorem dX6_image_25 : decode cX6_image 25 = .ok (.getfield 37, 3) := by decide +kernel
theorem dX6_image_28 : decode cX6_image 28 = .ok (.astore_n 2, 1) := by decide +kernel
theorem dX6_image_29 : decode cX6_image 29 = .ok (.aload_n 2, 1) := by decide +kernel
theorem dX6_image_30 : decode cX6_image 30 = .ok (.getfield 270, 3) := by decide +kernel
theorem dX6_image_33 : decode cX6_image 33 = .ok (.aload_n 0, 1) := by decide +kernel
theorem dX6_image_34 : decode cX6_image 34 = .ok (.getfield 12, 3) := by decide +kernel
theorem dX6_image_37 : decode cX6_image 37 = .ok (.invokevirtual 131, 3) := by decide +kernel
theorem dX6_image_40 : decode cX6_image 40 = .ok (.aload_n 2, 1) := by decide +kernel
theorem dX6_image_41 : decode cX6_image 41 = .ok (.getfield 273, 3) := by decide +kernel
theorem dX6_image_44 : decode cX6_image 44 = .ok (.aload_n 0, 1) := by decide +kernel
theorem dX6_image_45 : decode cX6_image 45 = .ok (.getfield 26, 3) := by decide +kernel
theorem dX6_image_48 : decode cX6_image 48 = .ok (.invokevirtual 274, 3) := by decide +kernel
theorem dX6_image_51 : decode cX6_image 51 = .ok (.aload_n 2, 1) := by decide +kernel
theorem dX6_image_52 : decode cX6_image 52 = .ok (.iconst 1, 1) := by decide +kernel
theorem dX6_image_53 : decode cX6_image 53 = .ok (.putfield 277, 3) := by decide +kernel
theorem dX6_image_56 : decode cX6_image 56 = .ok (.iconst 1, 1) := by decide +kernel
theorem dX6_image_57 : decode cX6_image 57 = .ok (.ireturn, 1) := by decide +kernel
theorem dX6_restore_0 : decode cX6_restore 0 = .ok (.iload_n 1, 1) := by decide +kernel
theorem dX6_restore_1 : decode cX6_restore 1 = .ok (.i2l, 1) := by decide +kernel
theorem dX6_restore_2 : decode cX6_restore 2 = .ok (.lconst 0, 1) := by decide +kernel
theorem dX6_restore_3 : decode cX6_restore 3 = .ok (.lconst 1, 1) := by decide +kernel
theorem dX6_restore_4 : decode cX6_restore 4 = .ok (.invokestatic 73, 3) := by decide +kernel
theorem dX6_restore_7 : decode cX6_restore 7 = .ok (.ifCond .ne 6, 3) := by decide +kernel
theorem dX6_restore_10 : decode cX6_restore 10 = .ok (.bipush (-2), 2) := by decide +kernel
theorem dX6_restore_12 : decode cX6_restore 12 = .ok (.ireturn, 1) := by decide +kernel
theorem dX6_restore_13 : decode cX6_restore 13 = .ok (.iload_n 1, 1) := by decide +kernel
theorem dX6_restore_14 : decode cX6_restore 14 = .ok (.ifCond .ne 10, 3) := by decide +kernel
theorem dX6_restore_17 : decode cX6_restore 17 = .ok (.aload_n 0, 1) := by decide +kernel
theorem dX6_restore_18 : decode cX6_restore 18 = .ok (.getfield 33, 3) := by decide +kernel
theorem dX6_restore_21 : decode cX6_restore 21 = .ok (.goto 7, 3) := by decide +kernel
theorem dX6_restore_24 : decode cX6_restore 24 = .ok (.aload_n 0, 1) := by decide +kernel
theorem dX6_restore_25 : decode cX6_restore 25 = .ok (.getfield 37, 3) := by decide +kernel
theorem dX6_restore_28 : decode cX6_restore 28 = .ok (.astore_n 2, 1) := by decide +kernel
theorem dX6_restore_29 : decode cX6_restore 29 = .ok (.aload_n 2, 1) := by decide +kernel
theorem dX6_restore_30 : decode cX6_restore 30 = .ok (.getfield 277, 3) := by decide +kernel
theorem dX6_restore_33 : decode cX6_restore 33 = .ok (.ifCond .ne 6, 3) := by decide +kernel
theorem dX6_restore_36 : decode cX6_restore 36 = .ok (.bipush (-3), 2) := by decide +kernel
theorem dX6_restore_38 : decode cX6_restore 38 = .ok (.ireturn, 1) := by decide +kernel
theorem dX6_restore_39 : decode cX6_restore 39 = .ok (.aload_n 0, 1) := by decide +kernel
theorem dX6_restore_40 : decode cX6_restore 40 = .ok (.getfield 12, 3) := by decide +kernel
theorem dX6_restore_43 : decode cX6_restore 43 = .ok (.aload_n 2, 1) := by decide +kernel
theorem dX6_restore_44 : decode cX6_restore 44 = .ok (.getfield 270, 3) := by decide +kernel
theorem dX6_restore_47 : decode cX6_restore 47 = .ok (.invokevirtual 131, 3) := by decide +kernel
theorem dX6_restore_50 : decode cX6_restore 50 = .ok (.aload_n 0, 1) := by decide +kernel
theorem dX6_restore_51 : decode cX6_restore 51 = .ok (.getfield 26, 3) := by decide +kernel
theorem dX6_restore_54 : decode cX6_restore 54 = .ok (.aload_n 2, 1) := by decide +kernel
theorem dX6_restore_55 : decode cX6_restore 55 = .ok (.getfield 273, 3) := by decide +kernel
theorem dX6_restore_58 : decode cX6_restore 58 = .ok (.invokevirtual 274, 3) := by decide +kernel
theorem dX6_restore_61 : decode cX6_restore 61 = .ok (.iconst 1, 1) := by decide +kernel
theorem dX6_restore_62 : decode cX6_restore 62 = .ok (.ireturn, 1) := by decide +kernel
theorem dX6_told_0 : decode cX6_told 0 = .ok (.iload_n 1, 1) := by decide +kernel
theorem dX6_told_1 : decode cX6_told 1 = .ok (.bipush 10, 2) := by decide +kernel
theorem dX6_told_3 : decode cX6_told 3 = .ok (.if_icmp .lt 16, 3) := by decide +kernel
theorem dX6_told_6 : decode cX6_told 6 = .ok (.aload_n 0, 1) := by decide +kernel
theorem dX6_told_7 : decode cX6_told 7 = .ok (.iload_n 1, 1) := by decide +kernel
theorem dX6_told_8 : decode cX6_told 8 = .ok (.bipush 10, 2) := by decide +kernel
theorem dX6_told_10 : decode cX6_told 10 = .ok (.idiv, 1) := by decide +kernel
theorem dX6_told_11 : decode cX6_told 11 = .ok (.iload_n 1, 1) := by decide +kernel
theorem dX6_told_12 : decode cX6_told 12 = .ok (.bipush 10, 2) := by decide +kernel
theorem dX6_told_14 : decode cX6_told 14 = .ok (.irem, 1) := by decide +kernel
theorem dX6_told_15 : decode cX6_told 15 = .ok (.invokevirtual 281, 3) := by decide +kernel
theorem dX6_told_18 : decode cX6_told 18 = .ok (.ireturn, 1) := by decide +kernel
theorem dX6_told_19 : decode cX6_told 19 = .ok (.iload_n 1, 1) := by decide +kernel
theorem dX6_told_20 : decode cX6_told 20 = .ok (.tableswitch 100 0 6 #[44, 52, 60, 68, 76, 84, 92], 44) := by decide +kernel
theorem dX6_told_64 : decode cX6_told 64 = .ok (.aload_n 0, 1) := by decide +kernel
theorem dX6_told_65 : decode cX6_told 65 = .ok (.getfield 19, 3) := by decide +kernel
theorem dX6_told_68 : decode cX6_told 68 = .ok (.getfield 111, 3) := by decide +kernel
theorem dX6_told_71 : decode cX6_told 71 = .ok (.ireturn, 1) := by decide +kernel
theorem dX6_told_72 : decode cX6_told 72 = .ok (.aload_n 0, 1) := by decide +kernel
theorem dX6_told_73 : decode cX6_told 73 = .ok (.getfield 12, 3) := by decide +kernel
theorem dX6_told_76 : decode cX6_told 76 = .ok (.getfield 101, 3) := by decide +kernel
theorem dX6_told_79 : decode cX6_told 79 = .ok (.ireturn, 1) := by decide +kernel
theorem dX6_told_80 : decode cX6_told 80 = .ok (.aload_n 0, 1) := by decide +kernel
theorem dX6_told_81 : decode cX6_told 81 = .ok (.getfield 12, 3) := by decide +kernel
theorem dX6_told_84 : decode cX6_told 84 = .ok (.getfield 146, 3) := by decide +kernel
theorem dX6_told_87 : decode cX6_told 87 = .ok (.ireturn, 1) := by decide +kernel
theorem dX6_told_88 : decode cX6_told 88 = .ok (.aload_n 0, 1) := by decide +kernel
theorem dX6_told_89 : decode cX6_told 89 = .ok (.getfield 12, 3) := by decide +kernel
theorem dX6_told_92 : decode cX6_told 92 = .ok (.getfield 149, 3) := by decide +kernel
theorem dX6_told_95 : decode cX6_told 95 = .ok (.ireturn, 1) := by decide +kernel
theorem dX6_told_96 : decode cX6_told 96 = .ok (.aload_n 0, 1) := by decide +kernel
theorem dX6_told_97 : decode cX6_told 97 = .ok (.getfield 12, 3) := by decide +kernel
theorem dX6_told_100 : decode cX6_told 100 = .ok (.getfield 92, 3) := by decide +kernel
theorem dX6_told_103 : decode cX6_told 103 = .ok (.ireturn, 1) := by decide +kernel
theorem dX6_told_104 : decode cX6_told 104 = .ok (.aload_n 0, 1) := by decide +kernel
theorem dX6_told_105 : decode cX6_told 105 = .ok (.getfield 12, 3) := by decide +kernel
theorem dX6_told_108 : decode cX6_told 108 = .ok (.getfield 155, 3) := by decide +kernel
theorem dX6_told_111 : decode cX6_told 111 = .ok (.ireturn, 1) := by decide +kernel
theorem dX6_told_112 : decode cX6_told 112 = .ok (.aload_n 0, 1) := by decide +kernel
theorem dX6_told_113 : decode cX6_told 113 = .ok (.getfield 26, 3) := by decide +kernel
theorem dX6_told_116 : decode cX6_told 116 = .ok (.getfield 206, 3) := by decide +kernel
theorem dX6_told_119 : decode cX6_told 119 = .ok (.ireturn, 1) := by decide +kernel
theorem dX6_told_120 : decode cX6_told 120 = .ok (.bipush (-2), 2) := by decide +kernel
theorem dX6_told_122 : decode cX6_told 122 = .ok (.ireturn, 1) := by decide +kernel
theorem dX6_toldOfHeap_0 : decode cX6_toldOfHeap 0 = .ok (.iload_n 2, 1) := by decide +kernel
theorem dX6_toldOfHeap_1 : decode cX6_toldOfHeap 1 = .ok (.invokestatic 65, 3) := by decide +kernel
theorem dX6_toldOfHeap_4 : decode cX6_toldOfHeap 4 = .ok (.ifCond .ne 6, 3) := by decide +kernel
theorem dX6_toldOfHeap_7 : decode cX6_toldOfHeap 7 = .ok (.bipush (-2), 2) := by decide +kernel
theorem dX6_toldOfHeap_9 : decode cX6_toldOfHeap 9 = .ok (.ireturn, 1) := by decide +kernel
theorem dX6_toldOfHeap_10 : decode cX6_toldOfHeap 10 = .ok (.iload_n 1, 1) := by decide +kernel
theorem dX6_toldOfHeap_11 : decode cX6_toldOfHeap 11 = .ok (.tableswitch 55 1 3 #[25, 35, 45], 25) := by decide +kernel
theorem dX6_toldOfHeap_36 : decode cX6_toldOfHeap 36 = .ok (.aload_n 0, 1) := by decide +kernel
theorem dX6_toldOfHeap_37 : decode cX6_toldOfHeap 37 = .ok (.getfield 12, 3) := by decide +kernel
theorem dX6_toldOfHeap_40 : decode cX6_toldOfHeap 40 = .ok (.getfield 83, 3) := by decide +kernel
theorem dX6_toldOfHeap_43 : decode cX6_toldOfHeap 43 = .ok (.iload_n 2, 1) := by decide +kernel
theorem dX6_toldOfHeap_44 : decode cX6_toldOfHeap 44 = .ok (.iaload, 1) := by decide +kernel
theorem dX6_toldOfHeap_45 : decode cX6_toldOfHeap 45 = .ok (.ireturn, 1) := by decide +kernel
theorem dX6_toldOfHeap_46 : decode cX6_toldOfHeap 46 = .ok (.aload_n 0, 1) := by decide +kernel
theorem dX6_toldOfHeap_47 : decode cX6_toldOfHeap 47 = .ok (.getfield 12, 3) := by decide +kernel
theorem dX6_toldOfHeap_50 : decode cX6_toldOfHeap 50 = .ok (.getfield 140, 3) := by decide +kernel
theorem dX6_toldOfHeap_53 : decode cX6_toldOfHeap 53 = .ok (.iload_n 2, 1) := by decide +kernel
theorem dX6_toldOfHeap_54 : decode cX6_toldOfHeap 54 = .ok (.iaload, 1) := by decide +kernel
theorem dX6_toldOfHeap_55 : decode cX6_toldOfHeap 55 = .ok (.ireturn, 1) := by decide +kernel
theorem dX6_toldOfHeap_56 : decode cX6_toldOfHeap 56 = .ok (.aload_n 0, 1) := by decide +kernel
theorem dX6_toldOfHeap_57 : decode cX6_toldOfHeap 57 = .ok (.getfield 12, 3) := by decide +kernel
theorem dX6_toldOfHeap_60 : decode cX6_toldOfHeap 60 = .ok (.getfield 143, 3) := by decide +kernel
theorem dX6_toldOfHeap_63 : decode cX6_toldOfHeap 63 = .ok (.iload_n 2, 1) := by decide +kernel
theorem dX6_toldOfHeap_64 : decode cX6_toldOfHeap 64 = .ok (.iaload, 1) := by decide +kernel
theorem dX6_toldOfHeap_65 : decode cX6_toldOfHeap 65 = .ok (.ireturn, 1) := by decide +kernel
theorem dX6_toldOfHeap_66 : decode cX6_toldOfHeap 66 = .ok (.bipush (-2), 2) := by decide +kernel
theorem dX6_toldOfHeap_68 : decode cX6_toldOfHeap 68 = .ok (.ireturn, 1) := by decide +kernel
theorem dX6_isIn_0 : decode cX6_isIn 0 = .ok (.lload_n 0, 1) := by decide +kernel
theorem dX6_isIn_1 : decode cX6_isIn 1 = .ok (.lload_n 2, 1) := by decide +kernel
theorem dX6_isIn_2 : decode cX6_isIn 2 = .ok (.lcmp, 1) := by decide +kernel
theorem dX6_isIn_3 : decode cX6_isIn 3 = .ok (.ifCond .lt 14, 3) := by decide +kernel
theorem dX6_isIn_6 : decode cX6_isIn 6 = .ok (.lload_n 0, 1) := by decide +kernel
theorem dX6_isIn_7 : decode cX6_isIn 7 = .ok (.lload 4, 2) := by decide +kernel
theorem dX6_isIn_9 : decode cX6_isIn 9 = .ok (.lcmp, 1) := by decide +kernel
theorem dX6_isIn_10 : decode cX6_isIn 10 = .ok (.ifCond .gt 7, 3) := by decide +kernel
theorem dX6_isIn_13 : decode cX6_isIn 13 = .ok (.iconst 1, 1) := by decide +kernel
theorem dX6_isIn_14 : decode cX6_isIn 14 = .ok (.goto 4, 3) := by decide +kernel
theorem dX6_isIn_17 : decode cX6_isIn 17 = .ok (.iconst 0, 1) := by decide +kernel
theorem dX6_isIn_18 : decode cX6_isIn 18 = .ok (.ireturn, 1) := by decide +kernel
theorem dX6_isHeap_0 : decode cX6_isHeap 0 = .ok (.iload_n 0, 1) := by decide +kernel
theorem dX6_isHeap_1 : decode cX6_isHeap 1 = .ok (.i2l, 1) := by decide +kernel
theorem dX6_isHeap_2 : decode cX6_isHeap 2 = .ok (.lconst 0, 1) := by decide +kernel
theorem dX6_isHeap_3 : decode cX6_isHeap 3 = .ok (.ldc2_w 284, 3) := by decide +kernel
theorem dX6_isHeap_6 : decode cX6_isHeap 6 = .ok (.invokestatic 73, 3) := by decide +kernel
theorem dX6_isHeap_9 : decode cX6_isHeap 9 = .ok (.ireturn, 1) := by decide +kernel
theorem dX6_hasBit_0 : decode cX6_hasBit 0 = .ok (.iload_n 0, 1) := by decide +kernel
theorem dX6_hasBit_1 : decode cX6_hasBit 1 = .ok (.iload_n 1, 1) := by decide +kernel
theorem dX6_hasBit_2 : decode cX6_hasBit 2 = .ok (.ishr, 1) := by decide +kernel
theorem dX6_hasBit_3 : decode cX6_hasBit 3 = .ok (.iconst 1, 1) := by decide +kernel
theorem dX6_hasBit_4 : decode cX6_hasBit 4 = .ok (.iand, 1) := by decide +kernel
theorem dX6_hasBit_5 : decode cX6_hasBit 5 = .ok (.ifCond .eq 7, 3) := by decide +kernel
theorem dX6_hasBit_8 : decode cX6_hasBit 8 = .ok (.iconst 1, 1) := by decide +kernel
theorem dX6_hasBit_9 : decode cX6_hasBit 9 = .ok (.goto 4, 3) := by decide +kernel
theorem dX6_hasBit_12 : decode cX6_hasBit 12 = .ok (.iconst 0, 1) := by decide +kernel
theorem dX6_hasBit_13 : decode cX6_hasBit 13 = .ok (.ireturn, 1) := by decide +kernel
theorem dJ6_bitCount_0f7a4_0 : decode cJ6_bitCount_0f7a4 0 = .ok (.iload_n 0, 1) := by decide +kernel
theorem dJ6_bitCount_0f7a4_1 : decode cJ6_bitCount_0f7a4 1 = .ok (.iload_n 0, 1) := by decide +kernel
theorem dJ6_bitCount_0f7a4_2 : decode cJ6_bitCount_0f7a4 2 = .ok (.iconst 1, 1) := by decide +kernel
theorem dJ6_bitCount_0f7a4_3 : decode cJ6_bitCount_0f7a4 3 = .ok (.iushr, 1) := by decide +kernel
theorem dJ6_bitCount_0f7a4_4 : decode cJ6_bitCount_0f7a4 4 = .ok (.ldc_w 265, 3) := by decide +kernel
theorem dJ6_bitCount_0f7a4_7 : decode cJ6_bitCount_0f7a4 7 = .ok (.iand, 1) := by decide +kernel
theorem dJ6_bitCount_0f7a4_8 : decode cJ6_bitCount_0f7a4 8 = .ok (.isub, 1) := by decide +kernel
theorem dJ6_bitCount_0f7a4_9 : decode cJ6_bitCount_0f7a4 9 = .ok (.istore_n 0, 1) := by decide +kernel
theorem dJ6_bitCount_0f7a4_10 : decode cJ6_bitCount_0f7a4 10 = .ok (.iload_n 0, 1) := by decide +kernel
theorem dJ6_bitCount_0f7a4_11 : decode cJ6_bitCount_0f7a4 11 = .ok (.ldc_w 266, 3) := by decide +kernel
theorem dJ6_bitCount_0f7a4_14 : decode cJ6_bitCount_0f7a4 14 = .ok (.iand, 1) := by decide +kernel
theorem dJ6_bitCount_0f7a4_15 : decode cJ6_bitCount_0f7a4 15 = .ok (.iload_n 0, 1) := by decide +kernel
theorem dJ6_bitCount_0f7a4_16 : decode cJ6_bitCount_0f7a4 16 = .ok (.iconst 2, 1) := by decide +kernel
theorem dJ6_bitCount_0f7a4_17 : decode cJ6_bitCount_0f7a4 17 = .ok (.iushr, 1) := by decide +kernel
theorem dJ6_bitCount_0f7a4_18 : decode cJ6_bitCount_0f7a4 18 = .ok (.ldc_w 266, 3) := by decide +kernel
theorem dJ6_bitCount_0f7a4_21 : decode cJ6_bitCount_0f7a4 21 = .ok (.iand, 1) := by decide +kernel
theorem dJ6_bitCount_0f7a4_22 : decode cJ6_bitCount_0f7a4 22 = .ok (.iadd, 1) := by decide +kernel
theorem dJ6_bitCount_0f7a4_23 : decode cJ6_bitCount_0f7a4 23 = .ok (.istore_n 0, 1) := by decide +kernel
theorem dJ6_bitCount_0f7a4_24 : decode cJ6_bitCount_0f7a4 24 = .ok (.iload_n 0, 1) := by decide +kernel
theorem dJ6_bitCount_0f7a4_25 : decode cJ6_bitCount_0f7a4 25 = .ok (.iload_n 0, 1) := by decide +kernel
theorem dJ6_bitCount_0f7a4_26 : decode cJ6_bitCount_0f7a4 26 = .ok (.iconst 4, 1) := by decide +kernel
theorem dJ6_bitCount_0f7a4_27 : decode cJ6_bitCount_0f7a4 27 = .ok (.iushr, 1) := by decide +kernel
theorem dJ6_bitCount_0f7a4_28 : decode cJ6_bitCount_0f7a4 28 = .ok (.iadd, 1) := by decide +kernel
theorem dJ6_bitCount_0f7a4_29 : decode cJ6_bitCount_0f7a4 29 = .ok (.ldc_w 267, 3) := by decide +kernel
theorem dJ6_bitCount_0f7a4_32 : decode cJ6_bitCount_0f7a4 32 = .ok (.iand, 1) := by decide +kernel
theorem dJ6_bitCount_0f7a4_33 : decode cJ6_bitCount_0f7a4 33 = .ok (.istore_n 0, 1) := by decide +kernel
theorem dJ6_bitCount_0f7a4_34 : decode cJ6_bitCount_0f7a4 34 = .ok (.iload_n 0, 1) := by decide +kernel
theorem dJ6_bitCount_0f7a4_35 : decode cJ6_bitCount_0f7a4 35 = .ok (.iload_n 0, 1) := by decide +kernel
theorem dJ6_bitCount_0f7a4_36 : decode cJ6_bitCount_0f7a4 36 = .ok (.bipush 8, 2) := by decide +kernel
theorem dJ6_bitCount_0f7a4_38 : decode cJ6_bitCount_0f7a4 38 = .ok (.iushr, 1) := by decide +kernel
theorem dJ6_bitCount_0f7a4_39 : decode cJ6_bitCount_0f7a4 39 = .ok (.iadd, 1) := by decide +kernel
theorem dJ6_bitCount_0f7a4_40 : decode cJ6_bitCount_0f7a4 40 = .ok (.istore_n 0, 1) := by decide +kernel
theorem dJ6_bitCount_0f7a4_41 : decode cJ6_bitCount_0f7a4 41 = .ok (.iload_n 0, 1) := by decide +kernel
theorem dJ6_bitCount_0f7a4_42 : decode cJ6_bitCount_0f7a4 42 = .ok (.iload_n 0, 1) := by decide +kernel
theorem dJ6_bitCount_0f7a4_43 : decode cJ6_bitCount_0f7a4 43 = .ok (.bipush 16, 2) := by decide +kernel
theorem dJ6_bitCount_0f7a4_45 : decode cJ6_bitCount_0f7a4 45 = .ok (.iushr, 1) := by decide +kernel
theorem dJ6_bitCount_0f7a4_46 : decode cJ6_bitCount_0f7a4 46 = .ok (.iadd, 1) := by decide +kernel
theorem dJ6_bitCount_0f7a4_47 : decode cJ6_bitCount_0f7a4 47 = .ok (.istore_n 0, 1) := by decide +kernel
theorem dJ6_bitCount_0f7a4_48 : decode cJ6_bitCount_0f7a4 48 = .ok (.iload_n 0, 1) := by decide +kernel
theorem dJ6_bitCount_0f7a4_49 : decode cJ6_bitCount_0f7a4 49 = .ok (.bipush 63, 2) := by decide +kernel
theorem dJ6_bitCount_0f7a4_51 : decode cJ6_bitCount_0f7a4 51 = .ok (.iand, 1) := by decide +kernel
theorem dJ6_bitCount_0f7a4_52 : decode cJ6_bitCount_0f7a4 52 = .ok (.ireturn, 1) := by decide +kernel
theorem dJ9_floorMod_7cf53_0 : decode cJ9_floorMod_7cf53 0 = .ok (.iload_n 0, 1) := by decide +kernel
theorem dJ9_floorMod_7cf53_1 : decode cJ9_floorMod_7cf53 1 = .ok (.iload_n 1, 1) := by decide +kernel
theorem dJ9_floorMod_7cf53_2 : decode cJ9_floorMod_7cf53 2 = .ok (.irem, 1) := by decide +kernel
theorem dJ9_floorMod_7cf53_3 : decode cJ9_floorMod_7cf53 3 = .ok (.istore_n 2, 1) := by decide +kernel
theorem dJ9_floorMod_7cf53_4 : decode cJ9_floorMod_7cf53 4 = .ok (.iload_n 0, 1) := by decide +kernel
theorem dJ9_floorMod_7cf53_5 : decode cJ9_floorMod_7cf53 5 = .ok (.iload_n 1, 1) := by decide +kernel
theorem dJ9_floorMod_7cf53_6 : decode cJ9_floorMod_7cf53 6 = .ok (.ixor, 1) := by decide +kernel
theorem dJ9_floorMod_7cf53_7 : decode cJ9_floorMod_7cf53 7 = .ok (.ifCond .ge 11, 3) := by decide +kernel
theorem dJ9_floorMod_7cf53_10 : decode cJ9_floorMod_7cf53 10 = .ok (.iload_n 2, 1) := by decide +kernel
theorem dJ9_floorMod_7cf53_11 : decode cJ9_floorMod_7cf53 11 = .ok (.ifCond .eq 7, 3) := by decide +kernel
theorem dJ9_floorMod_7cf53_14 : decode cJ9_floorMod_7cf53 14 = .ok (.iload_n 2, 1) := by decide +kernel
theorem dJ9_floorMod_7cf53_15 : decode cJ9_floorMod_7cf53 15 = .ok (.iload_n 1, 1) := by decide +kernel
theorem dJ9_floorMod_7cf53_16 : decode cJ9_floorMod_7cf53 16 = .ok (.iadd, 1) := by decide +kernel
theorem dJ9_floorMod_7cf53_17 : decode cJ9_floorMod_7cf53 17 = .ok (.ireturn, 1) := by decide +kernel
theorem dJ9_floorMod_7cf53_18 : decode cJ9_floorMod_7cf53 18 = .ok (.iload_n 2, 1) := by decide +kernel
theorem dJ9_floorMod_7cf53_19 : decode cJ9_floorMod_7cf53 19 = .ok (.ireturn, 1) := by decide +kernel
theorem dJ9_abs_0f7a4_0 : decode cJ9_abs_0f7a4 0 = .ok (.iload_n 0, 1) := by decide +kernel
theorem dJ9_abs_0f7a4_1 : decode cJ9_abs_0f7a4 1 = .ok (.ifCond .ge 8, 3) := by decide +kernel
theorem dJ9_abs_0f7a4_4 : decode cJ9_abs_0f7a4 4 = .ok (.iload_n 0, 1) := by decide +kernel
theorem dJ9_abs_0f7a4_5 : decode cJ9_abs_0f7a4 5 = .ok (.ineg, 1) := by decide +kernel
theorem dJ9_abs_0f7a4_6 : decode cJ9_abs_0f7a4 6 = .ok (.goto 4, 3) := by decide +kernel
theorem dJ9_abs_0f7a4_9 : decode cJ9_abs_0f7a4 9 = .ok (.iload_n 0, 1) := by decide +kernel
theorem dJ9_abs_0f7a4_10 : decode cJ9_abs_0f7a4 10 = .ok (.ireturn, 1) := by decide +kernel
theorem dJ9_max_7cf53_0 : decode cJ9_max_7cf53 0 = .ok (.iload_n 0, 1) := by decide +kernel
theorem dJ9_max_7cf53_1 : decode cJ9_max_7cf53 1 = .ok (.iload_n 1, 1) := by decide +kernel
theorem dJ9_max_7cf53_2 : decode cJ9_max_7cf53 2 = .ok (.if_icmp .lt 7, 3) := by decide +kernel
theorem dJ9_max_7cf53_5 : decode cJ9_max_7cf53 5 = .ok (.iload_n 0, 1) := by decide +kernel
theorem dJ9_max_7cf53_6 : decode cJ9_max_7cf53 6 = .ok (.goto 4, 3) := by decide +kernel
theorem dJ9_max_7cf53_9 : decode cJ9_max_7cf53 9 = .ok (.iload_n 1, 1) := by decide +kernel
theorem dJ9_max_7cf53_10 : decode cJ9_max_7cf53 10 = .ok (.ireturn, 1) := by decide +kernel
theorem dJ9_min_7cf53_0 : decode cJ9_min_7cf53 0 = .ok (.iload_n 0, 1) := by decide +kernel
theorem dJ9_min_7cf53_1 : decode cJ9_min_7cf53 1 = .ok (.iload_n 1, 1) := by decide +kernel
theorem dJ9_min_7cf53_2 : decode cJ9_min_7cf53 2 = .ok (.if_icmp .gt 7, 3) := by decide +kernel
theorem dJ9_min_7cf53_5 : decode cJ9_min_7cf53 5 = .ok (.iload_n 0, 1) := by decide +kernel
theorem dJ9_min_7cf53_6 : decode cJ9_min_7cf53 6 = .ok (.goto 4, 3) := by decide +kernel
theorem dJ9_min_7cf53_9 : decode cJ9_min_7cf53 9 = .ok (.iload_n 1, 1) := by decide +kernel
theorem dJ9_min_7cf53_10 : decode cJ9_min_7cf53 10 = .ok (.ireturn, 1) := by decide +kernel
end
section
theorem dX7_init_0 : decode cX7_init 0 = .ok (.aload_n 0, 1) := by decide +kernel
theorem dX7_init_1 : decode cX7_init 1 = .ok (.invokespecial 1, 3) := by decide +kernel
theorem dX7_init_4 : decode cX7_init 4 = .ok (.aload_n 0, 1) := by decide +kernel
theorem dX7_init_5 : decode cX7_init 5 = .ok (.bipush 22, 2) := by decide +kernel
theorem dX7_init_7 : decode cX7_init 7 = .ok (.newarray .int, 2) := by decide +kernel
theorem dX7_init_9 : decode cX7_init 9 = .ok (.putfield 7, 3) := by decide +kernel
theorem dX7_init_12 : decode cX7_init 12 = .ok (.aload_n 0, 1) := by decide +kernel
theorem dX7_init_13 : decode cX7_init 13 = .ok (.bipush 22, 2) := by decide +kernel
theorem dX7_init_15 : decode cX7_init 15 = .ok (.newarray .int, 2) := by decide +kernel
theorem dX7_init_17 : decode cX7_init 17 = .ok (.putfield 13, 3) := by decide +kernel
theorem dX7_init_20 : decode cX7_init 20 = .ok (.aload_n 0, 1) := by decide +kernel
theorem dX7_init_21 : decode cX7_init 21 = .ok (.iconst 2, 1) := by decide +kernel
theorem dX7_init_22 : decode cX7_init 22 = .ok (.putfield 16, 3) := by decide +kernel
theorem dX7_init_25 : decode cX7_init 25 = .ok (.aload_n 0, 1) := by decide +kernel
theorem dX7_init_26 : decode cX7_init 26 = .ok (.bipush 16, 2) := by decide +kernel
theorem dX7_init_28 : decode cX7_init 28 = .ok (.newarray .int, 2) := by decide +kernel
theorem dX7_init_30 : decode cX7_init 30 = .ok (.putfield 20, 3) := by decide +kernel
theorem dX7_init_33 : decode cX7_init 33 = .ok (.aload_n 0, 1) := by decide +kernel
theorem dX7_init_34 : decode cX7_init 34 = .ok (.bipush 60, 2) := by decide +kernel
theorem dX7_init_36 : decode cX7_init 36 = .ok (.newarray .int, 2) := by decide +kernel
theorem dX7_init_38 : decode cX7_init 38 = .ok (.putfield 23, 3) := by decide +kernel
theorem dX7_init_41 : decode cX7_init 41 = .ok (.aload_n 0, 1) := by decide +kernel
theorem dX7_init_42 : decode cX7_init 42 = .ok (.bipush 8, 2) := by decide +kernel
theorem dX7_init_44 : decode cX7_init 44 = .ok (.newarray .int, 2) := by decide +kernel
theorem dX7_init_46 : decode cX7_init 46 = .ok (.putfield 26, 3) := by decide +kernel
theorem dX7_init_49 : decode cX7_init 49 = .ok (.aload_n 0, 1) := by decide +kernel
theorem dX7_init_50 : decode cX7_init 50 = .ok (.bipush 8, 2) := by decide +kernel
theorem dX7_init_52 : decode cX7_init 52 = .ok (.newarray .int, 2) := by decide +kernel
theorem dX7_init_54 : decode cX7_init 54 = .ok (.putfield 29, 3) := by decide +kernel
theorem dX7_init_57 : decode cX7_init 57 = .ok (.aload_n 0, 1) := by decide +kernel
theorem dX7_init_58 : decode cX7_init 58 = .ok (.bipush 7, 2) := by decide +kernel
theorem dX7_init_60 : decode cX7_init 60 = .ok (.newarray .int, 2) := by decide +kernel
theorem dX7_init_62 : decode cX7_init 62 = .ok (.putfield 32, 3) := by decide +kernel
theorem dX7_init_65 : decode cX7_init 65 = .ok (.aload_n 0, 1) := by decide +kernel
theorem dX7_init_66 : decode cX7_init 66 = .ok (.bipush 61, 2) := by decide +kernel
theorem dX7_init_68 : decode cX7_init 68 = .ok (.newarray .int, 2) := by decide +kernel
theorem dX7_init_70 : decode cX7_init 70 = .ok (.putfield 35, 3) := by decide +kernel
theorem dX7_init_73 : decode cX7_init 73 = .ok (.aload_n 0, 1) := by decide +kernel
theorem dX7_init_74 : decode cX7_init 74 = .ok (.bipush 64, 2) := by decide +kernel
theorem dX7_init_76 : decode cX7_init 76 = .ok (.newarray .boolean, 2) := by decide +kernel
theorem dX7_init_78 : decode cX7_init 78 = .ok (.putfield 38, 3) := by decide +kernel
theorem dX7_init_81 : decode cX7_init 81 = .ok (.aload_n 0, 1) := by decide +kernel
theorem dX7_init_82 : decode cX7_init 82 = .ok (.bipush 100, 2) := by decide +kernel
theorem dX7_init_84 : decode cX7_init 84 = .ok (.newarray .int, 2) := by decide +kernel
theorem dX7_init_86 : decode cX7_init 86 = .ok (.putfield 42, 3) := by decide +kernel
theorem dX7_init_89 : decode cX7_init 89 = .ok (.aload_n 0, 1) := by decide +kernel
theorem dX7_init_90 : decode cX7_init 90 = .ok (.iconst 2, 1) := by decide +kernel
theorem dX7_init_91 : decode cX7_init 91 = .ok (.newarray .boolean, 2) := by decide +kernel
theorem dX7_init_93 : decode cX7_init 93 = .ok (.putfield 45, 3) := by decide +kernel
theorem dX7_init_96 : decode cX7_init 96 = .ok (.iconst 0, 1) := by decide +kernel
theorem dX7_init_97 : decode cX7_init 97 = .ok (.istore_n 1, 1) := by decide +kernel
theorem dX7_init_98 : decode cX7_init 98 = .ok (.iload_n 1, 1) := by decide +kernel
theorem dX7_init_99 : decode cX7_init 99 = .ok (.bipush 6, 2) := by decide +kernel
theorem dX7_init_101 : decode cX7_init 101 = .ok (.if_icmp .ge 30, 3) := by decide +kernel
theorem dX7_init_104 : decode cX7_init 104 = .ok (.aload_n 0, 1) := by decide +kernel
theorem dX7_init_105 : decode cX7_init 105 = .ok (.getfield 7, 3) := by decide +kernel
theorem dX7_init_108 : decode cX7_init 108 = .ok (.bipush 6, 2) := by decide +kernel
theorem dX7_init_110 : decode cX7_init 110 = .ok (.iload_n 1, 1) := by decide +kernel
theorem dX7_init_111 : decode cX7_init 111 = .ok (.iadd, 1) := by decide +kernel
theorem dX7_init_112 : decode cX7_init 112 = .ok (.iconst 5, 1) := by decide +kernel
theorem dX7_init_113 : decode cX7_init 113 = .ok (.iastore, 1) := by decide +kernel
theorem dX7_init_114 : decode cX7_init 114 = .ok (.aload_n 0, 1) := by decide +kernel
theorem dX7_init_115 : decode cX7_init 115 = .ok (.getfield 7, 3) := by decide +kernel
theorem dX7_init_118 : decode cX7_init 118 = .ok (.bipush 12, 2) := by decide +kernel
theorem dX7_init_120 : decode cX7_init 120 = .ok (.iload_n 1, 1) := by decide +kernel
theorem dX7_init_121 : decode cX7_init 121 = .ok (.iadd, 1) := by decide +kernel
theorem dX7_init_122 : decode cX7_init 122 = .ok (.bipush (-6), 2) := by decide +kernel
theorem dX7_init_124 : decode cX7_init 124 = .ok (.iastore, 1) := by decide +kernel
theorem dX7_init_125 : decode cX7_init 125 = .ok (.iinc 1 1, 3) := by decide +kernel
theorem dX7_init_128 : decode cX7_init 128 = .ok (.goto (-30), 3) := by decide +kernel
theorem dX7_init_131 : decode cX7_init 131 = .ok (.return_, 1) := by decide +kernel
theorem dX7_in_0 : decode cX7_in 0 = .ok (.iload_n 0, 1) := by decide +kernel
theorem dX7_in_1 : decode cX7_in 1 = .ok (.iload_n 1, 1) := by decide +kernel
theorem dX7_in_2 : decode cX7_in 2 = .ok (.if_icmp .lt 12, 3) := by decide +kernel
theorem dX7_in_5 : decode cX7_in 5 = .ok (.iload_n 0, 1) := by decide +kernel
theorem dX7_in_6 : decode cX7_in 6 = .ok (.iload_n 2, 1) := by decide +kernel
theorem dX7_in_7 : decode cX7_in 7 = .ok (.if_icmp .gt 7, 3) := by decide +kernel
theorem dX7_in_10 : decode cX7_in 10 = .ok (.iconst 1, 1) := by decide +kernel
theorem dX7_in_11 : decode cX7_in 11 = .ok (.goto 4, 3) := by decide +kernel
theorem dX7_in_14 : decode cX7_in 14 = .ok (.iconst 0, 1) := by decide +kernel
theorem dX7_in_15 : decode cX7_in 15 = .ok (.ireturn, 1) := by decide +kernel
theorem dX7_has_0 : decode cX7_has 0 = .ok (.iload_n 0, 1) := by decide +kernel
theorem dX7_has_1 : decode cX7_has 1 = .ok (.iload_n 1, 1) := by decide +kernel
theorem dX7_has_2 : decode cX7_has 2 = .ok (.ishr, 1) := by decide +kernel
theorem dX7_has_3 : decode cX7_has 3 = .ok (.iconst 1, 1) := by decide +kernel
theorem dX7_has_4 : decode cX7_has 4 = .ok (.iand, 1) := by decide +kernel
theorem dX7_has_5 : decode cX7_has 5 = .ok (.iconst 1, 1) := by decide +kernel
theorem dX7_has_6 : decode cX7_has 6 = .ok (.if_icmp .ne 7, 3) := by decide +kernel
theorem dX7_has_9 : decode cX7_has 9 = .ok (.iconst 1, 1) := by decide +kernel
theorem dX7_has_10 : decode cX7_has 10 = .ok (.goto 4, 3) := by decide +kernel
theorem dX7_has_13 : decode cX7_has 13 = .ok (.iconst 0, 1) := by decide +kernel
theorem dX7_has_14 : decode cX7_has 14 = .ok (.ireturn, 1) := by decide +kernel
theorem dX7_bits_0 : decode cX7_bits 0 = .ok (.iconst 0, 1) := by decide +kernel
theorem dX7_bits_1 : decode cX7_bits 1 = .ok (.istore_n 1, 1) := by decide +kernel
theorem dX7_bits_2 : decode cX7_bits 2 = .ok (.iconst 0, 1) := by decide +kernel
theorem dX7_bits_3 : decode cX7_bits 3 = .ok (.istore_n 2, 1) := by decide +kernel
theorem dX7_bits_4 : decode cX7_bits 4 = .ok (.iload_n 2, 1) := by decide +kernel
theorem dX7_bits_5 : decode cX7_bits 5 = .ok (.bipush 8, 2) := by decide +kernel
theorem dX7_bits_7 : decode cX7_bits 7 = .ok (.if_icmp .ge 17, 3) := by decide +kernel
theorem dX7_bits_10 : decode cX7_bits 10 = .ok (.iload_n 1, 1) := by decide +kernel
theorem dX7_bits_11 : decode cX7_bits 11 = .ok (.iload_n 0, 1) := by decide +kernel
theorem dX7_bits_12 : decode cX7_bits 12 = .ok (.iload_n 2, 1) := by decide +kernel
theorem dX7_bits_13 : decode cX7_bits 13 = .ok (.ishr, 1) := by decide +kernel
theorem dX7_bits_14 : decode cX7_bits 14 = .ok (.iconst 1, 1) := by decide +kernel
theorem dX7_bits_15 : decode cX7_bits 15 = .ok (.iand, 1) := by decide +kernel
theorem dX7_bits_16 : decode cX7_bits 16 = .ok (.iadd, 1) := by decide +kernel
theorem dX7_bits_17 : decode cX7_bits 17 = .ok (.istore_n 1, 1) := by decide +kernel
theorem dX7_bits_18 : decode cX7_bits 18 = .ok (.iinc 2 1, 3) := by decide +kernel
theorem dX7_bits_21 : decode cX7_bits 21 = .ok (.goto (-17), 3) := by decide +kernel
theorem dX7_bits_24 : decode cX7_bits 24 = .ok (.iload_n 1, 1) := by decide +kernel
theorem dX7_bits_25 : decode cX7_bits 25 = .ok (.ireturn, 1) := by decide +kernel
theorem dX7_isHeap_0 : decode cX7_isHeap 0 = .ok (.iload_n 0, 1) := by decide +kernel
theorem dX7_isHeap_1 : decode cX7_isHeap 1 = .ok (.iconst 0, 1) := by decide +kernel
theorem dX7_isHeap_2 : decode cX7_isHeap 2 = .ok (.iconst 5, 1) := by decide +kernel
theorem dX7_isHeap_3 : decode cX7_isHeap 3 = .ok (.invokestatic 48, 3) := by decide +kernel
theorem dX7_isHeap_6 : decode cX7_isHeap 6 = .ok (.ireturn, 1) := by decide +kernel
theorem dX7_heap_0 : decode cX7_heap 0 = .ok (.iload_n 1, 1) := by decide +kernel
theorem dX7_heap_1 : decode cX7_heap 1 = .ok (.invokestatic 52, 3) := by decide +kernel
theorem dX7_heap_4 : decode cX7_heap 4 = .ok (.ifCond .eq 13, 3) := by decide +kernel
theorem dX7_heap_7 : decode cX7_heap 7 = .ok (.iload_n 2, 1) := by decide +kernel
theorem dX7_heap_8 : decode cX7_heap 8 = .ok (.iconst (-1), 1) := by decide +kernel
theorem dX7_heap_9 : decode cX7_heap 9 = .ok (.bipush 24, 2) := by decide +kernel
theorem dX7_heap_11 : decode cX7_heap 11 = .ok (.invokestatic 48, 3) := by decide +kernel
theorem dX7_heap_14 : decode cX7_heap 14 = .ok (.ifCond .ne 5, 3) := by decide +kernel
theorem dX7_heap_17 : decode cX7_heap 17 = .ok (.iconst (-1), 1) := by decide +kernel
theorem dX7_heap_18 : decode cX7_heap 18 = .ok (.ireturn, 1) := by decide +kernel
theorem dX7_heap_19 : decode cX7_heap 19 = .ok (.iload_n 3, 1) := by decide +kernel
theorem dX7_heap_20 : decode cX7_heap 20 = .ok (.iconst 0, 1) := by decide +kernel
theorem dX7_heap_21 : decode cX7_heap 21 = .ok (.iload_n 2, 1) := by decide +kernel
theorem dX7_heap_22 : decode cX7_heap 22 = .ok (.ifCond .ge 7, 3) := by decide +kernel
theorem dX7_heap_25 : decode cX7_heap 25 = .ok (.iconst 0, 1) := by decide +kernel
theorem dX7_heap_26 : decode cX7_heap 26 = .ok (.goto 5, 3) := by decide +kernel
theorem dX7_heap_29 : decode cX7_heap 29 = .ok (.bipush 9, 2) := by decide +kernel
theorem dX7_heap_31 : decode cX7_heap 31 = .ok (.invokestatic 48, 3) := by decide +kernel
theorem dX7_heap_34 : decode cX7_heap 34 = .ok (.ifCond .eq 14, 3) := by decide +kernel
theorem dX7_heap_37 : decode cX7_heap 37 = .ok (.iload 4, 2) := by decide +kernel
theorem dX7_heap_39 : decode cX7_heap 39 = .ok (.iconst 0, 1) := by decide +kernel
theorem dX7_heap_40 : decode cX7_heap 40 = .ok (.bipush 9, 2) := by decide +kernel
theorem dX7_heap_42 : decode cX7_heap 42 = .ok (.invokestatic 48, 3) := by decide +kernel
theorem dX7_heap_45 : decode cX7_heap 45 = .ok (.ifCond .ne 6, 3) := by decide +kernel
theorem dX7_heap_48 : decode cX7_heap 48 = .ok (.bipush (-2), 2) := by decide +kernel
theorem dX7_heap_50 : decode cX7_heap 50 = .ok (.ireturn, 1) := by decide +kernel
theorem dX7_heap_51 : decode cX7_heap 51 = .ok (.iconst 0, 1) := by decide +kernel
theorem dX7_heap_52 : decode cX7_heap 52 = .ok (.istore 5, 2) := by decide +kernel
theorem dX7_heap_54 : decode cX7_heap 54 = .ok (.iload 5, 2) := by decide +kernel
theorem dX7_heap_56 : decode cX7_heap 56 = .ok (.bipush 6, 2) := by decide +kernel
theorem dX7_heap_58 : decode cX7_heap 58 = .ok (.if_icmp .ge 36, 3) := by decide +kernel
theorem dX7_heap_61 : decode cX7_heap 61 = .ok (.iload 5, 2) := by decide +kernel
theorem dX7_heap_63 : decode cX7_heap 63 = .ok (.iload_n 1, 1) := by decide +kernel
theorem dX7_heap_64 : decode cX7_heap 64 = .ok (.if_icmp .eq 24, 3) := by decide +kernel
theorem dX7_heap_67 : decode cX7_heap 67 = .ok (.iload_n 2, 1) := by decide +kernel
theorem dX7_heap_68 : decode cX7_heap 68 = .ok (.ifCond .lt 20, 3) := by decide +kernel
theorem dX7_heap_71 : decode cX7_heap 71 = .ok (.aload_n 0, 1) := by decide +kernel
theorem dX7_heap_72 : decode cX7_heap 72 = .ok (.getfield 7, 3) := by decide +kernel
theorem dX7_heap_75 : decode cX7_heap 75 = .ok (.bipush 12, 2) := by decide +kernel
theorem dX7_heap_77 : decode cX7_heap 77 = .ok (.iload 5, 2) := by decide +kernel
theorem dX7_heap_79 : decode cX7_heap 79 = .ok (.iadd, 1) := by decide +kernel
theorem dX7_heap_80 : decode cX7_heap 80 = .ok (.iaload, 1) := by decide +kernel
theorem dX7_heap_81 : decode cX7_heap 81 = .ok (.iload_n 2, 1) := by decide +kernel
theorem dX7_heap_82 : decode cX7_heap 82 = .ok (.if_icmp .ne 6, 3) := by decide +kernel
theorem dX7_heap_85 : decode cX7_heap 85 = .ok (.bipush (-3), 2) := by decide +kernel
theorem dX7_heap_87 : decode cX7_heap 87 = .ok (.ireturn, 1) := by decide +kernel
theorem dX7_heap_88 : decode cX7_heap 88 = .ok (.iinc 5 1, 3) := by decide +kernel
theorem dX7_heap_91 : decode cX7_heap 91 = .ok (.goto (-37), 3) := by decide +kernel
theorem dX7_heap_94 : decode cX7_heap 94 = .ok (.aload_n 0, 1) := by decide +kernel
theorem dX7_heap_95 : decode cX7_heap 95 = .ok (.getfield 7, 3) := by decide +kernel
theorem dX7_heap_98 : decode cX7_heap 98 = .ok (.bipush 12, 2) := by decide +kernel
theorem dX7_heap_100 : decode cX7_heap 100 = .ok (.iload_n 1, 1) := by decide +kernel
theorem dX7_heap_101 : decode cX7_heap 101 = .ok (.iadd, 1) := by decide +kernel
theorem dX7_heap_102 : decode cX7_heap 102 = .ok (.iaload, 1) := by decide +kernel
theorem dX7_heap_103 : decode cX7_heap 103 = .ok (.istore 5, 2) := by decide +kernel
theorem dX7_heap_105 : decode cX7_heap 105 = .ok (.aload_n 0, 1) := by decide +kernel
theorem dX7_heap_106 : decode cX7_heap 106 = .ok (.getfield 7, 3) := by decide +kernel
theorem dX7_heap_109 : decode cX7_heap 109 = .ok (.iload_n 1, 1) := by decide +kernel
theorem dX7_heap_110 : decode cX7_heap 110 = .ok (.iload_n 3, 1) := by decide +kernel
theorem dX7_heap_111 : decode cX7_heap 111 = .ok (.iastore, 1) := by decide +kernel
theorem dX7_heap_112 : decode cX7_heap 112 = .ok (.aload_n 0, 1) := by decide +kernel
theorem dX7_heap_113 : decode cX7_heap 113 = .ok (.getfield 7, 3) := by decide +kernel
theorem dX7_heap_116 : decode cX7_heap 116 = .ok (.bipush 6, 2) := by decide +kernel
theorem dX7_heap_118 : decode cX7_heap 118 = .ok (.iload_n 1, 1) := by decide +kernel
theorem dX7_heap_119 : decode cX7_heap 119 = .ok (.iadd, 1) := by decide +kernel
theorem dX7_heap_120 : decode cX7_heap 120 = .ok (.iload 4, 2) := by decide +kernel
theorem dX7_heap_122 : decode cX7_heap 122 = .ok (.iastore, 1) := by decide +kernel
theorem dX7_heap_123 : decode cX7_heap 123 = .ok (.aload_n 0, 1) := by decide +kernel
theorem dX7_heap_124 : decode cX7_heap 124 = .ok (.getfield 7, 3) := by decide +kernel
theorem dX7_heap_127 : decode cX7_heap 127 = .ok (.bipush 12, 2) := by decide +kernel
theorem dX7_heap_129 : decode cX7_heap 129 = .ok (.iload_n 1, 1) := by decide +kernel
theorem dX7_heap_130 : decode cX7_heap 130 = .ok (.iadd, 1) := by decide +kernel
theorem dX7_heap_131 : decode cX7_heap 131 = .ok (.iload_n 2, 1) := by decide +kernel
theorem dX7_heap_132 : decode cX7_heap 132 = .ok (.ifCond .ge 8, 3) := by decide +kernel
theorem dX7_heap_135 : decode cX7_heap 135 = .ok (.bipush (-6), 2) := by decide +kernel
theorem dX7_heap_137 : decode cX7_heap 137 = .ok (.goto 4, 3) := by decide +kernel
theorem dX7_heap_140 : decode cX7_heap 140 = .ok (.iload_n 2, 1) := by decide +kernel
theorem dX7_heap_141 : decode cX7_heap 141 = .ok (.iastore, 1) := by decide +kernel
theorem dX7_heap_142 : decode cX7_heap 142 = .ok (.aload_n 0, 1) := by decide +kernel
theorem dX7_heap_143 : decode cX7_heap 143 = .ok (.getfield 7, 3) := by decide +kernel
theorem dX7_heap_146 : decode cX7_heap 146 = .ok (.bipush 18, 2) := by decide +kernel
theorem dX7_heap_148 : decode cX7_heap 148 = .ok (.dup2, 1) := by decide +kernel
theorem dX7_heap_149 : decode cX7_heap 149 = .ok (.iaload, 1) := by decide +kernel
theorem dX7_heap_150 : decode cX7_heap 150 = .ok (.iconst 1, 1) := by decide +kernel
theorem dX7_heap_151 : decode cX7_heap 151 = .ok (.iload_n 1, 1) := by decide +kernel
theorem dX7_heap_152 : decode cX7_heap 152 = .ok (.ishl, 1) := by decide +kernel
theorem dX7_heap_153 : decode cX7_heap 153 = .ok (.iconst (-1), 1) := by decide +kernel
theorem dX7_heap_154 : decode cX7_heap 154 = .ok (.ixor, 1) := by decide +kernel
theorem dX7_heap_155 : decode cX7_heap 155 = .ok (.iand, 1) := by decide +kernel
theorem dX7_heap_156 : decode cX7_heap 156 = .ok (.iastore, 1) := by decide +kernel
theorem dX7_heap_157 : decode cX7_heap 157 = .ok (.aload_n 0, 1) := by decide +kernel
theorem dX7_heap_158 : decode cX7_heap 158 = .ok (.getfield 7, 3) := by decide +kernel
theorem dX7_heap_161 : decode cX7_heap 161 = .ok (.bipush 20, 2) := by decide +kernel
theorem dX7_heap_163 : decode cX7_heap 163 = .ok (.dup2, 1) := by decide +kernel
theorem dX7_heap_164 : decode cX7_heap 164 = .ok (.iaload, 1) := by decide +kernel
theorem dX7_heap_165 : decode cX7_heap 165 = .ok (.iconst 1, 1) := by decide +kernel
theorem dX7_heap_166 : decode cX7_heap 166 = .ok (.iload_n 1, 1) := by decide +kernel
theorem dX7_heap_167 : decode cX7_heap 167 = .ok (.ishl, 1) := by decide +kernel
theorem dX7_heap_168 : decode cX7_heap 168 = .ok (.iconst (-1), 1) := by decide +kernel
theorem dX7_heap_169 : decode cX7_heap 169 = .ok (.ixor, 1) := by decide +kernel
theorem dX7_heap_170 : decode cX7_heap 170 = .ok (.iand, 1) := by decide +kernel
theorem dX7_heap_171 : decode cX7_heap 171 = .ok (.iastore, 1) := by decide +kernel
theorem dX7_heap_172 : decode cX7_heap 172 = .ok (.iload 5, 2) := by decide +kernel
theorem dX7_heap_174 : decode cX7_heap 174 = .ok (.ireturn, 1) := by decide +kernel
theorem dX7_burners_0 : decode cX7_burners 0 = .ok (.iload_n 1, 1) := by decide +kernel
theorem dX7_burners_1 : decode cX7_burners 1 = .ok (.iconst 0, 1) := by decide +kernel
theorem dX7_burners_2 : decode cX7_burners 2 = .ok (.bipush 6, 2) := by decide +kernel
theorem dX7_burners_4 : decode cX7_burners 4 = .ok (.invokestatic 48, 3) := by decide +kernel
theorem dX7_burners_7 : decode cX7_burners 7 = .ok (.ifCond .ne 6, 3) := by decide +kernel
theorem dX7_burners_10 : decode cX7_burners 10 = .ok (.bipush (-2), 2) := by decide +kernel
theorem dX7_burners_12 : decode cX7_burners 12 = .ok (.ireturn, 1) := by decide +kernel
theorem dX7_burners_13 : decode cX7_burners 13 = .ok (.aload_n 0, 1) := by decide +kernel
theorem dX7_burners_14 : decode cX7_burners 14 = .ok (.getfield 7, 3) := by decide +kernel
theorem dX7_burners_17 : decode cX7_burners 17 = .ok (.bipush 18, 2) := by decide +kernel
theorem dX7_burners_19 : decode cX7_burners 19 = .ok (.iaload, 1) := by decide +kernel
theorem dX7_burners_20 : decode cX7_burners 20 = .ok (.invokestatic 56, 3) := by decide +kernel
theorem dX7_burners_23 : decode cX7_burners 23 = .ok (.iload_n 1, 1) := by decide +kernel
theorem dX7_burners_24 : decode cX7_burners 24 = .ok (.if_icmp .le 6, 3) := by decide +kernel
theorem dX7_burners_27 : decode cX7_burners 27 = .ok (.bipush (-3), 2) := by decide +kernel
theorem dX7_burners_29 : decode cX7_burners 29 = .ok (.ireturn, 1) := by decide +kernel
theorem dX7_burners_30 : decode cX7_burners 30 = .ok (.aload_n 0, 1) := by decide +kernel
theorem dX7_burners_31 : decode cX7_burners 31 = .ok (.getfield 16, 3) := by decide +kernel
theorem dX7_burners_34 : decode cX7_burners 34 = .ok (.istore_n 2, 1) := by decide +kernel
theorem dX7_burners_35 : decode cX7_burners 35 = .ok (.aload_n 0, 1) := by decide +kernel
theorem dX7_burners_36 : decode cX7_burners 36 = .ok (.iload_n 1, 1) := by decide +kernel
theorem dX7_burners_37 : decode cX7_burners 37 = .ok (.putfield 16, 3) := by decide +kernel
theorem dX7_burners_40 : decode cX7_burners 40 = .ok (.iload_n 2, 1) := by decide +kernel
theorem dX7_burners_41 : decode cX7_burners 41 = .ok (.ireturn, 1) := by decide +kernel
theorem dX7_say_0 : decode cX7_say 0 = .ok (.iload_n 1, 1) := by decide +kernel
theorem dX7_say_1 : decode cX7_say 1 = .ok (.bipush 33, 2) := by decide +kernel
theorem dX7_say_3 : decode cX7_say 3 = .ok (.bipush 126, 2) := by decide +kernel
theorem dX7_say_5 : decode cX7_say 5 = .ok (.invokestatic 48, 3) := by decide +kernel
theorem dX7_say_8 : decode cX7_say 8 = .ok (.ifCond .ne 6, 3) := by decide +kernel
theorem dX7_say_11 : decode cX7_say 11 = .ok (.bipush (-2), 2) := by decide +kernel
theorem dX7_say_13 : decode cX7_say 13 = .ok (.ireturn, 1) := by decide +kernel
theorem dX7_say_14 : decode cX7_say 14 = .ok (.aload_n 0, 1) := by decide +kernel
theorem dX7_say_15 : decode cX7_say 15 = .ok (.getfield 60, 3) := by decide +kernel
theorem dX7_say_18 : decode cX7_say 18 = .ok (.bipush 60, 2) := by decide +kernel
theorem dX7_say_20 : decode cX7_say 20 = .ok (.if_icmp .ne 6, 3) := by decide +kernel
theorem dX7_say_23 : decode cX7_say 23 = .ok (.bipush (-4), 2) := by decide +kernel
theorem dX7_say_25 : decode cX7_say 25 = .ok (.ireturn, 1) := by decide +kernel
theorem dX7_say_26 : decode cX7_say 26 = .ok (.aload_n 0, 1) := by decide +kernel
theorem dX7_say_27 : decode cX7_say 27 = .ok (.getfield 23, 3) := by decide +kernel
theorem dX7_say_30 : decode cX7_say 30 = .ok (.aload_n 0, 1) := by decide +kernel
theorem dX7_say_31 : decode cX7_say 31 = .ok (.getfield 60, 3) := by decide +kernel
theorem dX7_say_34 : decode cX7_say 34 = .ok (.iload_n 1, 1) := by decide +kernel
theorem dX7_say_35 : decode cX7_say 35 = .ok (.iastore, 1) := by decide +kernel
theorem dX7_say_36 : decode cX7_say 36 = .ok (.aload_n 0, 1) := by decide +kernel
theorem dX7_say_37 : decode cX7_say 37 = .ok (.dup, 1) := by decide +kernel
theorem dX7_say_38 : decode cX7_say 38 = .ok (.getfield 60, 3) := by decide +kernel
theorem dX7_say_41 : decode cX7_say 41 = .ok (.iconst 1, 1) := by decide +kernel
theorem dX7_say_42 : decode cX7_say 42 = .ok (.iadd, 1) := by decide +kernel
theorem dX7_say_43 : decode cX7_say 43 = .ok (.putfield 60, 3) := by decide +kernel
theorem dX7_say_46 : decode cX7_say 46 = .ok (.aload_n 0, 1) := by decide +kernel
theorem dX7_say_47 : decode cX7_say 47 = .ok (.getfield 60, 3) := by decide +kernel
theorem dX7_say_50 : decode cX7_say 50 = .ok (.ireturn, 1) := by decide +kernel
theorem dX7_wipe_0 : decode cX7_wipe 0 = .ok (.aload_n 0, 1) := by decide +kernel
theorem dX7_wipe_1 : decode cX7_wipe 1 = .ok (.getfield 60, 3) := by decide +kernel
theorem dX7_wipe_4 : decode cX7_wipe 4 = .ok (.istore_n 1, 1) := by decide +kernel
theorem dX7_wipe_5 : decode cX7_wipe 5 = .ok (.aload_n 0, 1) := by decide +kernel
theorem dX7_wipe_6 : decode cX7_wipe 6 = .ok (.iconst 0, 1) := by decide +kernel
theorem dX7_wipe_7 : decode cX7_wipe 7 = .ok (.putfield 60, 3) := by decide +kernel
theorem dX7_wipe_10 : decode cX7_wipe 10 = .ok (.iload_n 1, 1) := by decide +kernel
theorem dX7_wipe_11 : decode cX7_wipe 11 = .ok (.ireturn, 1) := by decide +kernel
theorem dX7_faultOf_0 : decode cX7_faultOf 0 = .ok (.iconst 0, 1) := by decide +kernel
theorem dX7_faultOf_1 : decode cX7_faultOf 1 = .ok (.istore_n 1, 1) := by decide +kernel
theorem dX7_faultOf_2 : decode cX7_faultOf 2 = .ok (.iconst 0, 1) := by decide +kernel
theorem dX7_faultOf_3 : decode cX7_faultOf 3 = .ok (.istore_n 2, 1) := by decide +kernel
theorem dX7_faultOf_4 : decode cX7_faultOf 4 = .ok (.iload_n 2, 1) := by decide +kernel
theorem dX7_faultOf_5 : decode cX7_faultOf 5 = .ok (.aload_n 0, 1) := by decide +kernel
theorem dX7_faultOf_6 : decode cX7_faultOf 6 = .ok (.getfield 60, 3) := by decide +kernel
theorem dX7_faultOf_9 : decode cX7_faultOf 9 = .ok (.if_icmp .ge 108, 3) := by decide +kernel
theorem dX7_faultOf_12 : decode cX7_faultOf 12 = .ok (.aload_n 0, 1) := by decide +kernel
theorem dX7_faultOf_13 : decode cX7_faultOf 13 = .ok (.getfield 23, 3) := by decide +kernel
theorem dX7_faultOf_16 : decode cX7_faultOf 16 = .ok (.iload_n 2, 1) := by decide +kernel
theorem dX7_faultOf_17 : decode cX7_faultOf 17 = .ok (.iaload, 1) := by decide +kernel
theorem dX7_faultOf_18 : decode cX7_faultOf 18 = .ok (.istore_n 3, 1) := by decide +kernel
theorem dX7_faultOf_19 : decode cX7_faultOf 19 = .ok (.iload_n 3, 1) := by decide +kernel
theorem dX7_faultOf_20 : decode cX7_faultOf 20 = .ok (.bipush 65, 2) := by decide +kernel
theorem dX7_faultOf_22 : decode cX7_faultOf 22 = .ok (.bipush 70, 2) := by decide +kernel
theorem dX7_faultOf_24 : decode cX7_faultOf 24 = .ok (.invokestatic 48, 3) := by decide +kernel
theorem dX7_faultOf_27 : decode cX7_faultOf 27 = .ok (.istore 4, 2) := by decide +kernel
theorem dX7_faultOf_29 : decode cX7_faultOf 29 = .ok (.iload_n 3, 1) := by decide +kernel
theorem dX7_faultOf_30 : decode cX7_faultOf 30 = .ok (.bipush 97, 2) := by decide +kernel
theorem dX7_faultOf_32 : decode cX7_faultOf 32 = .ok (.bipush 121, 2) := by decide +kernel
theorem dX7_faultOf_34 : decode cX7_faultOf 34 = .ok (.invokestatic 48, 3) := by decide +kernel
theorem dX7_faultOf_37 : decode cX7_faultOf 37 = .ok (.ifCond .ne 27, 3) := by decide +kernel
theorem dX7_faultOf_40 : decode cX7_faultOf 40 = .ok (.iload_n 3, 1) := by decide +kernel
theorem dX7_faultOf_41 : decode cX7_faultOf 41 = .ok (.bipush 43, 2) := by decide +kernel
theorem dX7_faultOf_43 : decode cX7_faultOf 43 = .ok (.if_icmp .eq 21, 3) := by decide +kernel
theorem dX7_faultOf_46 : decode cX7_faultOf 46 = .ok (.iload_n 3, 1) := by decide +kernel
theorem dX7_faultOf_47 : decode cX7_faultOf 47 = .ok (.bipush 45, 2) := by decide +kernel
theorem dX7_faultOf_49 : decode cX7_faultOf 49 = .ok (.if_icmp .eq 15, 3) := by decide +kernel
theorem dX7_faultOf_52 : decode cX7_faultOf 52 = .ok (.iload_n 3, 1) := by decide +kernel
theorem dX7_faultOf_53 : decode cX7_faultOf 53 = .ok (.bipush 42, 2) := by decide +kernel
theorem dX7_faultOf_55 : decode cX7_faultOf 55 = .ok (.if_icmp .eq 9, 3) := by decide +kernel
theorem dX7_faultOf_58 : decode cX7_faultOf 58 = .ok (.iload_n 3, 1) := by decide +kernel
theorem dX7_faultOf_59 : decode cX7_faultOf 59 = .ok (.bipush 94, 2) := by decide +kernel
theorem dX7_faultOf_61 : decode cX7_faultOf 61 = .ok (.if_icmp .ne 7, 3) := by decide +kernel
theorem dX7_faultOf_64 : decode cX7_faultOf 64 = .ok (.iconst 1, 1) := by decide +kernel
theorem dX7_faultOf_65 : decode cX7_faultOf 65 = .ok (.goto 4, 3) := by decide +kernel
theorem dX7_faultOf_68 : decode cX7_faultOf 68 = .ok (.iconst 0, 1) := by decide +kernel
theorem dX7_faultOf_69 : decode cX7_faultOf 69 = .ok (.istore 5, 2) := by decide +kernel
theorem dX7_faultOf_71 : decode cX7_faultOf 71 = .ok (.iload_n 1, 1) := by decide +kernel
theorem dX7_faultOf_72 : decode cX7_faultOf 72 = .ok (.ifCond .eq 11, 3) := by decide +kernel
theorem dX7_faultOf_75 : decode cX7_faultOf 75 = .ok (.iload 5, 2) := by decide +kernel
theorem dX7_faultOf_77 : decode cX7_faultOf 77 = .ok (.ifCond .ne 19, 3) := by decide +kernel
theorem dX7_faultOf_80 : decode cX7_faultOf 80 = .ok (.goto 14, 3) := by decide +kernel
theorem dX7_faultOf_83 : decode cX7_faultOf 83 = .ok (.iload 4, 2) := by decide +kernel
theorem dX7_faultOf_85 : decode cX7_faultOf 85 = .ok (.ifCond .ne 11, 3) := by decide +kernel
theorem dX7_faultOf_88 : decode cX7_faultOf 88 = .ok (.iload_n 3, 1) := by decide +kernel
theorem dX7_faultOf_89 : decode cX7_faultOf 89 = .ok (.bipush 46, 2) := by decide +kernel
theorem dX7_faultOf_91 : decode cX7_faultOf 91 = .ok (.if_icmp .eq 5, 3) := by decide +kernel
theorem dX7_faultOf_94 : decode cX7_faultOf 94 = .ok (.iload_n 2, 1) := by decide +kernel
theorem dX7_faultOf_95 : decode cX7_faultOf 95 = .ok (.ireturn, 1) := by decide +kernel
theorem dX7_faultOf_96 : decode cX7_faultOf 96 = .ok (.iload_n 1, 1) := by decide +kernel
theorem dX7_faultOf_97 : decode cX7_faultOf 97 = .ok (.ifCond .ne 12, 3) := by decide +kernel
theorem dX7_faultOf_100 : decode cX7_faultOf 100 = .ok (.iload 4, 2) := by decide +kernel
theorem dX7_faultOf_102 : decode cX7_faultOf 102 = .ok (.ifCond .eq 7, 3) := by decide +kernel
theorem dX7_faultOf_105 : decode cX7_faultOf 105 = .ok (.iconst 1, 1) := by decide +kernel
theorem dX7_faultOf_106 : decode cX7_faultOf 106 = .ok (.goto 4, 3) := by decide +kernel
theorem dX7_faultOf_109 : decode cX7_faultOf 109 = .ok (.iconst 0, 1) := by decide +kernel
theorem dX7_faultOf_110 : decode cX7_faultOf 110 = .ok (.istore_n 1, 1) := by decide +kernel
theorem dX7_faultOf_111 : decode cX7_faultOf 111 = .ok (.iinc 2 1, 3) := by decide +kernel
theorem dX7_faultOf_114 : decode cX7_faultOf 114 = .ok (.goto (-110), 3) := by decide +kernel
theorem dX7_faultOf_117 : decode cX7_faultOf 117 = .ok (.iload_n 1, 1) := by decide +kernel
theorem dX7_faultOf_118 : decode cX7_faultOf 118 = .ok (.ifCond .eq 10, 3) := by decide +kernel
theorem dX7_faultOf_121 : decode cX7_faultOf 121 = .ok (.aload_n 0, 1) := by decide +kernel
theorem dX7_faultOf_122 : decode cX7_faultOf 122 = .ok (.getfield 60, 3) := by decide +kernel
theorem dX7_faultOf_125 : decode cX7_faultOf 125 = .ok (.goto 5, 3) := by decide +kernel
theorem dX7_faultOf_128 : decode cX7_faultOf 128 = .ok (.bipush (-6), 2) := by decide +kernel
theorem dX7_faultOf_130 : decode cX7_faultOf 130 = .ok (.ireturn, 1) := by decide +kernel
theorem dX7_fault_0 : decode cX7_fault 0 = .ok (.aload_n 0, 1) := by decide +kernel
theorem dX7_fault_1 : decode cX7_fault 1 = .ok (.invokevirtual 63, 3) := by decide +kernel
theorem dX7_fault_4 : decode cX7_fault 4 = .ok (.ireturn, 1) := by decide +kernel
theorem dX7_asNow_0 : decode cX7_asNow 0 = .ok (.iconst 0, 1) := by decide +kernel
theorem dX7_asNow_1 : decode cX7_asNow 1 = .ok (.istore_n 1, 1) := by decide +kernel
theorem dX7_asNow_2 : decode cX7_asNow 2 = .ok (.iload_n 1, 1) := by decide +kernel
theorem dX7_asNow_3 : decode cX7_asNow 3 = .ok (.bipush 22, 2) := by decide +kernel
theorem dX7_asNow_5 : decode cX7_asNow 5 = .ok (.if_icmp .ge 21, 3) := by decide +kernel
theorem dX7_asNow_8 : decode cX7_asNow 8 = .ok (.aload_n 0, 1) := by decide +kernel
theorem dX7_asNow_9 : decode cX7_asNow 9 = .ok (.getfield 13, 3) := by decide +kernel
theorem dX7_asNow_12 : decode cX7_asNow 12 = .ok (.iload_n 1, 1) := by decide +kernel
theorem dX7_asNow_13 : decode cX7_asNow 13 = .ok (.aload_n 0, 1) := by decide +kernel
theorem dX7_asNow_14 : decode cX7_asNow 14 = .ok (.getfield 7, 3) := by decide +kernel
theorem dX7_asNow_17 : decode cX7_asNow 17 = .ok (.iload_n 1, 1) := by decide +kernel
theorem dX7_asNow_18 : decode cX7_asNow 18 = .ok (.iaload, 1) := by decide +kernel
theorem dX7_asNow_19 : decode cX7_asNow 19 = .ok (.iastore, 1) := by decide +kernel
theorem dX7_asNow_20 : decode cX7_asNow 20 = .ok (.iinc 1 1, 3) := by decide +kernel
theorem dX7_asNow_23 : decode cX7_asNow 23 = .ok (.goto (-21), 3) := by decide +kernel
theorem dX7_asNow_26 : decode cX7_asNow 26 = .ok (.aload_n 0, 1) := by decide +kernel
theorem dX7_asNow_27 : decode cX7_asNow 27 = .ok (.iconst 0, 1) := by decide +kernel
theorem dX7_asNow_28 : decode cX7_asNow 28 = .ok (.putfield 67, 3) := by decide +kernel
theorem dX7_asNow_31 : decode cX7_asNow 31 = .ok (.aload_n 0, 1) := by decide +kernel
theorem dX7_asNow_32 : decode cX7_asNow 32 = .ok (.bipush (-6), 2) := by decide +kernel
theorem dX7_asNow_34 : decode cX7_asNow 34 = .ok (.putfield 70, 3) := by decide +kernel
theorem dX7_asNow_37 : decode cX7_asNow 37 = .ok (.aload_n 0, 1) := by decide +kernel
theorem dX7_asNow_38 : decode cX7_asNow 38 = .ok (.bipush (-6), 2) := by decide +kernel
theorem dX7_asNow_40 : decode cX7_asNow 40 = .ok (.putfield 73, 3) := by decide +kernel
theorem dX7_asNow_43 : decode cX7_asNow 43 = .ok (.return_, 1) := by decide +kernel
theorem dX7_off_0 : decode cX7_off 0 = .ok (.iload_n 0, 1) := by decide +kernel
theorem dX7_off_1 : decode cX7_off 1 = .ok (.iload_n 1, 1) := by decide +kernel
theorem dX7_off_2 : decode cX7_off 2 = .ok (.if_icmp .le 9, 3) := by decide +kernel
theorem dX7_off_5 : decode cX7_off 5 = .ok (.iload_n 0, 1) := by decide +kernel
theorem dX7_off_6 : decode cX7_off 6 = .ok (.iload_n 1, 1) := by decide +kernel
theorem dX7_off_7 : decode cX7_off 7 = .ok (.isub, 1) := by decide +kernel
theorem dX7_off_8 : decode cX7_off 8 = .ok (.goto 6, 3) := by decide +kernel
theorem dX7_off_11 : decode cX7_off 11 = .ok (.iload_n 1, 1) := by decide +kernel
theorem dX7_off_12 : decode cX7_off 12 = .ok (.iload_n 0, 1) := by decide +kernel
theorem dX7_off_13 : decode cX7_off 13 = .ok (.isub, 1) := by decide +kernel
theorem dX7_off_14 : decode cX7_off 14 = .ok (.ireturn, 1) := by decide +kernel
theorem dX7_areNear_0 : decode cX7_areNear 0 = .ok (.iload_n 0, 1) := by decide +kernel
theorem dX7_areNear_1 : decode cX7_areNear 1 = .ok (.ifCond .lt 34, 3) := by decide +kernel
theorem dX7_areNear_4 : decode cX7_areNear 4 = .ok (.iload_n 1, 1) := by decide +kernel
theorem dX7_areNear_5 : decode cX7_areNear 5 = .ok (.ifCond .lt 30, 3) := by decide +kernel
theorem dX7_areNear_8 : decode cX7_areNear 8 = .ok (.iload_n 0, 1) := by decide +kernel
theorem dX7_areNear_9 : decode cX7_areNear 9 = .ok (.iconst 5, 1) := by decide +kernel
theorem dX7_areNear_10 : decode cX7_areNear 10 = .ok (.idiv, 1) := by decide +kernel
theorem dX7_areNear_11 : decode cX7_areNear 11 = .ok (.iload_n 1, 1) := by decide +kernel
theorem dX7_areNear_12 : decode cX7_areNear 12 = .ok (.iconst 5, 1) := by decide +kernel
theorem dX7_areNear_13 : decode cX7_areNear 13 = .ok (.idiv, 1) := by decide +kernel
theorem dX7_areNear_14 : decode cX7_areNear 14 = .ok (.invokestatic 76, 3) := by decide +kernel
theorem dX7_areNear_17 : decode cX7_areNear 17 = .ok (.iload_n 0, 1) := by decide +kernel
theorem dX7_areNear_18 : decode cX7_areNear 18 = .ok (.iconst 5, 1) := by decide +kernel
theorem dX7_areNear_19 : decode cX7_areNear 19 = .ok (.irem, 1) := by decide +kernel
theorem dX7_areNear_20 : decode cX7_areNear 20 = .ok (.iload_n 1, 1) := by decide +kernel
theorem dX7_areNear_21 : decode cX7_areNear 21 = .ok (.iconst 5, 1) := by decide +kernel
theorem dX7_areNear_22 : decode cX7_areNear 22 = .ok (.irem, 1) := by decide +kernel
theorem dX7_areNear_23 : decode cX7_areNear 23 = .ok (.invokestatic 76, 3) := by decide +kernel
theorem dX7_areNear_26 : decode cX7_areNear 26 = .ok (.iadd, 1) := by decide +kernel
theorem dX7_areNear_27 : decode cX7_areNear 27 = .ok (.iconst 3, 1) := by decide +kernel
theorem dX7_areNear_28 : decode cX7_areNear 28 = .ok (.if_icmp .ge 7, 3) := by decide +kernel
theorem dX7_areNear_31 : decode cX7_areNear 31 = .ok (.iconst 1, 1) := by decide +kernel
theorem dX7_areNear_32 : decode cX7_areNear 32 = .ok (.goto 4, 3) := by decide +kernel
theorem dX7_areNear_35 : decode cX7_areNear 35 = .ok (.iconst 0, 1) := by decide +kernel
theorem dX7_areNear_36 : decode cX7_areNear 36 = .ok (.ireturn, 1) := by decide +kernel
theorem dX7_stack_0 : decode cX7_stack 0 = .ok (.iconst 0, 1) := by decide +kernel
theorem dX7_stack_1 : decode cX7_stack 1 = .ok (.istore_n 3, 1) := by decide +kernel
theorem dX7_stack_2 : decode cX7_stack 2 = .ok (.iload_n 3, 1) := by decide +kernel
theorem dX7_stack_3 : decode cX7_stack 3 = .ok (.bipush 6, 2) := by decide +kernel
theorem dX7_stack_5 : decode cX7_stack 5 = .ok (.if_icmp .ge 29, 3) := by decide +kernel
theorem dX7_stack_8 : decode cX7_stack 8 = .ok (.iload_n 3, 1) := by decide +kernel
theorem dX7_stack_9 : decode cX7_stack 9 = .ok (.iload_n 1, 1) := by decide +kernel
theorem dX7_stack_10 : decode cX7_stack 10 = .ok (.if_icmp .eq 18, 3) := by decide +kernel
theorem dX7_stack_13 : decode cX7_stack 13 = .ok (.aload_n 0, 1) := by decide +kernel
theorem dX7_stack_14 : decode cX7_stack 14 = .ok (.getfield 13, 3) := by decide +kernel
theorem dX7_stack_17 : decode cX7_stack 17 = .ok (.bipush 12, 2) := by decide +kernel
theorem dX7_stack_19 : decode cX7_stack 19 = .ok (.iload_n 3, 1) := by decide +kernel
theorem dX7_stack_20 : decode cX7_stack 20 = .ok (.iadd, 1) := by decide +kernel
theorem dX7_stack_21 : decode cX7_stack 21 = .ok (.iaload, 1) := by decide +kernel
theorem dX7_stack_22 : decode cX7_stack 22 = .ok (.iload_n 2, 1) := by decide +kernel
theorem dX7_stack_23 : decode cX7_stack 23 = .ok (.if_icmp .ne 5, 3) := by decide +kernel
theorem dX7_stack_26 : decode cX7_stack 26 = .ok (.iconst 2, 1) := by decide +kernel
theorem dX7_stack_27 : decode cX7_stack 27 = .ok (.ireturn, 1) := by decide +kernel
theorem dX7_stack_28 : decode cX7_stack 28 = .ok (.iinc 3 1, 3) := by decide +kernel
theorem dX7_stack_31 : decode cX7_stack 31 = .ok (.goto (-29), 3) := by decide +kernel
theorem dX7_stack_34 : decode cX7_stack 34 = .ok (.aload_n 0, 1) := by decide +kernel
theorem dX7_stack_35 : decode cX7_stack 35 = .ok (.getfield 13, 3) := by decide +kernel
theorem dX7_stack_38 : decode cX7_stack 38 = .ok (.iload_n 1, 1) := by decide +kernel
theorem dX7_stack_39 : decode cX7_stack 39 = .ok (.iaload, 1) := by decide +kernel
theorem dX7_stack_40 : decode cX7_stack 40 = .ok (.ifCond .le 5, 3) := by decide +kernel
theorem dX7_stack_43 : decode cX7_stack 43 = .ok (.iconst 3, 1) := by decide +kernel
theorem dX7_stack_44 : decode cX7_stack 44 = .ok (.ireturn, 1) := by decide +kernel
theorem dX7_stack_45 : decode cX7_stack 45 = .ok (.aload_n 0, 1) := by decide +kernel
theorem dX7_stack_46 : decode cX7_stack 46 = .ok (.getfield 13, 3) := by decide +kernel
theorem dX7_stack_49 : decode cX7_stack 49 = .ok (.bipush 12, 2) := by decide +kernel
theorem dX7_stack_51 : decode cX7_stack 51 = .ok (.iload_n 1, 1) := by decide +kernel
theorem dX7_stack_52 : decode cX7_stack 52 = .ok (.iadd, 1) := by decide +kernel
theorem dX7_stack_53 : decode cX7_stack 53 = .ok (.iload_n 2, 1) := by decide +kernel
theorem dX7_stack_54 : decode cX7_stack 54 = .ok (.iastore, 1) := by decide +kernel
theorem dX7_stack_55 : decode cX7_stack 55 = .ok (.aload_n 0, 1) := by decide +kernel
theorem dX7_stack_56 : decode cX7_stack 56 = .ok (.getfield 13, 3) := by decide +kernel
theorem dX7_stack_59 : decode cX7_stack 59 = .ok (.bipush 20, 2) := by decide +kernel
theorem dX7_stack_61 : decode cX7_stack 61 = .ok (.dup2, 1) := by decide +kernel
theorem dX7_stack_62 : decode cX7_stack 62 = .ok (.iaload, 1) := by decide +kernel
theorem dX7_stack_63 : decode cX7_stack 63 = .ok (.iconst 1, 1) := by decide +kernel
theorem dX7_stack_64 : decode cX7_stack 64 = .ok (.iload_n 1, 1) := by decide +kernel
theorem dX7_stack_65 : decode cX7_stack 65 = .ok (.ishl, 1) := by decide +kernel
theorem dX7_stack_66 : decode cX7_stack 66 = .ok (.iconst (-1), 1) := by decide +kernel
theorem dX7_stack_67 : decode cX7_stack 67 = .ok (.ixor, 1) := by decide +kernel
theorem dX7_stack_68 : decode cX7_stack 68 = .ok (.iand, 1) := by decide +kernel
theorem dX7_stack_69 : decode cX7_stack 69 = .ok (.iastore, 1) := by decide +kernel
theorem dX7_stack_70 : decode cX7_stack 70 = .ok (.iconst 0, 1) := by decide +kernel
theorem dX7_stack_71 : decode cX7_stack 71 = .ok (.ireturn, 1) := by decide +kernel
theorem dX7_turf_0 : decode cX7_turf 0 = .ok (.aload_n 0, 1) := by decide +kernel
theorem dX7_turf_1 : decode cX7_turf 1 = .ok (.getfield 13, 3) := by decide +kernel
theorem dX7_turf_4 : decode cX7_turf 4 = .ok (.bipush 12, 2) := by decide +kernel
theorem dX7_turf_6 : decode cX7_turf 6 = .ok (.iload_n 1, 1) := by decide +kernel
theorem dX7_turf_7 : decode cX7_turf 7 = .ok (.iadd, 1) := by decide +kernel
theorem dX7_turf_8 : decode cX7_turf 8 = .ok (.iaload, 1) := by decide +kernel
theorem dX7_turf_9 : decode cX7_turf 9 = .ok (.ifCond .ge 5, 3) := by decide +kernel
theorem dX7_turf_12 : decode cX7_turf 12 = .ok (.iconst 1, 1) := by decide +kernel
theorem dX7_turf_13 : decode cX7_turf 13 = .ok (.ireturn, 1) := by decide +kernel
theorem dX7_turf_14 : decode cX7_turf 14 = .ok (.aload_n 0, 1) := by decide +kernel
theorem dX7_turf_15 : decode cX7_turf 15 = .ok (.getfield 13, 3) := by decide +kernel
theorem dX7_turf_18 : decode cX7_turf 18 = .ok (.bipush 6, 2) := by decide +kernel
theorem dX7_turf_20 : decode cX7_turf 20 = .ok (.iload_n 1, 1) := by decide +kernel
theorem dX7_turf_21 : decode cX7_turf 21 = .ok (.iadd, 1) := by decide +kernel
theorem dX7_turf_22 : decode cX7_turf 22 = .ok (.iaload, 1) := by decide +kernel
theorem dX7_turf_23 : decode cX7_turf 23 = .ok (.iload_n 2, 1) := by decide +kernel
theorem dX7_turf_24 : decode cX7_turf 24 = .ok (.iadd, 1) := by decide +kernel
theorem dX7_turf_25 : decode cX7_turf 25 = .ok (.iconst 0, 1) := by decide +kernel
theorem dX7_turf_26 : decode cX7_turf 26 = .ok (.bipush 9, 2) := by decide +kernel
theorem dX7_turf_28 : decode cX7_turf 28 = .ok (.invokestatic 48, 3) := by decide +kernel
theorem dX7_turf_31 : decode cX7_turf 31 = .ok (.ifCond .ne 5, 3) := by decide +kernel
theorem dX7_turf_34 : decode cX7_turf 34 = .ok (.iconst 5, 1) := by decide +kernel
theorem dX7_turf_35 : decode cX7_turf 35 = .ok (.ireturn, 1) := by decide +kernel
theorem dX7_turf_36 : decode cX7_turf 36 = .ok (.aload_n 0, 1) := by decide +kernel
theorem dX7_turf_37 : decode cX7_turf 37 = .ok (.getfield 13, 3) := by decide +kernel
theorem dX7_turf_40 : decode cX7_turf 40 = .ok (.bipush 6, 2) := by decide +kernel
theorem dX7_turf_42 : decode cX7_turf 42 = .ok (.iload_n 1, 1) := by decide +kernel
theorem dX7_turf_43 : decode cX7_turf 43 = .ok (.iadd, 1) := by decide +kernel
theorem dX7_turf_44 : decode cX7_turf 44 = .ok (.dup2, 1) := by decide +kernel
theorem dX7_turf_45 : decode cX7_turf 45 = .ok (.iaload, 1) := by decide +kernel
theorem dX7_turf_46 : decode cX7_turf 46 = .ok (.iload_n 2, 1) := by decide +kernel
theorem dX7_turf_47 : decode cX7_turf 47 = .ok (.iadd, 1) := by decide +kernel
theorem dX7_turf_48 : decode cX7_turf 48 = .ok (.iastore, 1) := by decide +kernel
theorem dX7_turf_49 : decode cX7_turf 49 = .ok (.iconst 0, 1) := by decide +kernel
theorem dX7_turf_50 : decode cX7_turf 50 = .ok (.ireturn, 1) := by decide +kernel
theorem dX7_kindle_0 : decode cX7_kindle 0 = .ok (.aload_n 0, 1) := by decide +kernel
theorem dX7_kindle_1 : decode cX7_kindle 1 = .ok (.getfield 13, 3) := by decide +kernel
theorem dX7_kindle_4 : decode cX7_kindle 4 = .ok (.bipush 12, 2) := by decide +kernel
theorem dX7_kindle_6 : decode cX7_kindle 6 = .ok (.iload_n 1, 1) := by decide +kernel
theorem dX7_kindle_7 : decode cX7_kindle 7 = .ok (.iadd, 1) := by decide +kernel
theorem dX7_kindle_8 : decode cX7_kindle 8 = .ok (.iaload, 1) := by decide +kernel
theorem dX7_kindle_9 : decode cX7_kindle 9 = .ok (.ifCond .ge 5, 3) := by decide +kernel
theorem dX7_kindle_12 : decode cX7_kindle 12 = .ok (.iconst 1, 1) := by decide +kernel
theorem dX7_kindle_13 : decode cX7_kindle 13 = .ok (.ireturn, 1) := by decide +kernel
theorem dX7_kindle_14 : decode cX7_kindle 14 = .ok (.aload_n 0, 1) := by decide +kernel
theorem dX7_kindle_15 : decode cX7_kindle 15 = .ok (.getfield 13, 3) := by decide +kernel
theorem dX7_kindle_18 : decode cX7_kindle 18 = .ok (.iload_n 1, 1) := by decide +kernel
theorem dX7_kindle_19 : decode cX7_kindle 19 = .ok (.iaload, 1) := by decide +kernel
theorem dX7_kindle_20 : decode cX7_kindle 20 = .ok (.ifCond .le 5, 3) := by decide +kernel
theorem dX7_kindle_23 : decode cX7_kindle 23 = .ok (.iconst 3, 1) := by decide +kernel
theorem dX7_kindle_24 : decode cX7_kindle 24 = .ok (.ireturn, 1) := by decide +kernel
theorem dX7_kindle_25 : decode cX7_kindle 25 = .ok (.aload_n 0, 1) := by decide +kernel
theorem dX7_kindle_26 : decode cX7_kindle 26 = .ok (.getfield 13, 3) := by decide +kernel
theorem dX7_kindle_29 : decode cX7_kindle 29 = .ok (.bipush 20, 2) := by decide +kernel
theorem dX7_kindle_31 : decode cX7_kindle 31 = .ok (.iaload, 1) := by decide +kernel
theorem dX7_kindle_32 : decode cX7_kindle 32 = .ok (.iload_n 1, 1) := by decide +kernel
theorem dX7_kindle_33 : decode cX7_kindle 33 = .ok (.invokestatic 80, 3) := by decide +kernel
theorem dX7_kindle_36 : decode cX7_kindle 36 = .ok (.ifCond .eq 5, 3) := by decide +kernel
theorem dX7_kindle_39 : decode cX7_kindle 39 = .ok (.iconst 4, 1) := by decide +kernel
theorem dX7_kindle_40 : decode cX7_kindle 40 = .ok (.ireturn, 1) := by decide +kernel
theorem dX7_kindle_41 : decode cX7_kindle 41 = .ok (.aload_n 0, 1) := by decide +kernel
theorem dX7_kindle_42 : decode cX7_kindle 42 = .ok (.getfield 13, 3) := by decide +kernel
theorem dX7_kindle_45 : decode cX7_kindle 45 = .ok (.iload_n 1, 1) := by decide +kernel
theorem dX7_kindle_46 : decode cX7_kindle 46 = .ok (.iconst 3, 1) := by decide +kernel
theorem dX7_kindle_47 : decode cX7_kindle 47 = .ok (.iastore, 1) := by decide +kernel
theorem dX7_kindle_48 : decode cX7_kindle 48 = .ok (.iconst 0, 1) := by decide +kernel
theorem dX7_kindle_49 : decode cX7_kindle 49 = .ok (.ireturn, 1) := by decide +kernel
theorem dX7_watch_0 : decode cX7_watch 0 = .ok (.aload_n 0, 1) := by decide +kernel
theorem dX7_watch_1 : decode cX7_watch 1 = .ok (.getfield 13, 3) := by decide +kernel
theorem dX7_watch_4 : decode cX7_watch 4 = .ok (.bipush 12, 2) := by decide +kernel
theorem dX7_watch_6 : decode cX7_watch 6 = .ok (.iload_n 1, 1) := by decide +kernel
theorem dX7_watch_7 : decode cX7_watch 7 = .ok (.iadd, 1) := by decide +kernel
theorem dX7_watch_8 : decode cX7_watch 8 = .ok (.iaload, 1) := by decide +kernel
theorem dX7_watch_9 : decode cX7_watch 9 = .ok (.ifCond .ge 5, 3) := by decide +kernel
theorem dX7_watch_12 : decode cX7_watch 12 = .ok (.iconst 1, 1) := by decide +kernel
theorem dX7_watch_13 : decode cX7_watch 13 = .ok (.ireturn, 1) := by decide +kernel
theorem dX7_watch_14 : decode cX7_watch 14 = .ok (.aload_n 0, 1) := by decide +kernel
theorem dX7_watch_15 : decode cX7_watch 15 = .ok (.getfield 13, 3) := by decide +kernel
theorem dX7_watch_18 : decode cX7_watch 18 = .ok (.bipush 18, 2) := by decide +kernel
theorem dX7_watch_20 : decode cX7_watch 20 = .ok (.iaload, 1) := by decide +kernel
theorem dX7_watch_21 : decode cX7_watch 21 = .ok (.iload_n 1, 1) := by decide +kernel
theorem dX7_watch_22 : decode cX7_watch 22 = .ok (.invokestatic 80, 3) := by decide +kernel
theorem dX7_watch_25 : decode cX7_watch 25 = .ok (.ifCond .ne 23, 3) := by decide +kernel
theorem dX7_watch_28 : decode cX7_watch 28 = .ok (.aload_n 0, 1) := by decide +kernel
theorem dX7_watch_29 : decode cX7_watch 29 = .ok (.getfield 13, 3) := by decide +kernel
theorem dX7_watch_32 : decode cX7_watch 32 = .ok (.bipush 18, 2) := by decide +kernel
theorem dX7_watch_34 : decode cX7_watch 34 = .ok (.iaload, 1) := by decide +kernel
theorem dX7_watch_35 : decode cX7_watch 35 = .ok (.invokestatic 56, 3) := by decide +kernel
theorem dX7_watch_38 : decode cX7_watch 38 = .ok (.aload_n 0, 1) := by decide +kernel
theorem dX7_watch_39 : decode cX7_watch 39 = .ok (.getfield 16, 3) := by decide +kernel
theorem dX7_watch_42 : decode cX7_watch 42 = .ok (.if_icmp .lt 6, 3) := by decide +kernel
theorem dX7_watch_45 : decode cX7_watch 45 = .ok (.bipush 6, 2) := by decide +kernel
theorem dX7_watch_47 : decode cX7_watch 47 = .ok (.ireturn, 1) := by decide +kernel
theorem dX7_watch_48 : decode cX7_watch 48 = .ok (.aload_n 0, 1) := by decide +kernel
theorem dX7_watch_49 : decode cX7_watch 49 = .ok (.getfield 13, 3) := by decide +kernel
theorem dX7_watch_52 : decode cX7_watch 52 = .ok (.bipush 18, 2) := by decide +kernel
theorem dX7_watch_54 : decode cX7_watch 54 = .ok (.dup2, 1) := by decide +kernel
theorem dX7_watch_55 : decode cX7_watch 55 = .ok (.iaload, 1) := by decide +kernel
theorem dX7_watch_56 : decode cX7_watch 56 = .ok (.iconst 1, 1) := by decide +kernel
theorem dX7_watch_57 : decode cX7_watch 57 = .ok (.iload_n 1, 1) := by decide +kernel
theorem dX7_watch_58 : decode cX7_watch 58 = .ok (.ishl, 1) := by decide +kernel
theorem dX7_watch_59 : decode cX7_watch 59 = .ok (.ixor, 1) := by decide +kernel
theorem dX7_watch_60 : decode cX7_watch 60 = .ok (.iastore, 1) := by decide +kernel
theorem dX7_watch_61 : decode cX7_watch 61 = .ok (.iconst 0, 1) := by decide +kernel
theorem dX7_watch_62 : decode cX7_watch 62 = .ok (.ireturn, 1) := by decide +kernel
theorem dX7_burn_0 : decode cX7_burn 0 = .ok (.iconst 0, 1) := by decide +kernel
theorem dX7_burn_1 : decode cX7_burn 1 = .ok (.istore_n 1, 1) := by decide +kernel
theorem dX7_burn_2 : decode cX7_burn 2 = .ok (.iconst 0, 1) := by decide +kernel
theorem dX7_burn_3 : decode cX7_burn 3 = .ok (.istore_n 2, 1) := by decide +kernel
theorem dX7_burn_4 : decode cX7_burn 4 = .ok (.iload_n 2, 1) := by decide +kernel
theorem dX7_burn_5 : decode cX7_burn 5 = .ok (.bipush 6, 2) := by decide +kernel
theorem dX7_burn_7 : decode cX7_burn 7 = .ok (.if_icmp .ge 137, 3) := by decide +kernel
theorem dX7_burn_10 : decode cX7_burn 10 = .ok (.aload_n 0, 1) := by decide +kernel
theorem dX7_burn_11 : decode cX7_burn 11 = .ok (.getfield 13, 3) := by decide +kernel
theorem dX7_burn_14 : decode cX7_burn 14 = .ok (.iload_n 2, 1) := by decide +kernel
theorem dX7_burn_15 : decode cX7_burn 15 = .ok (.iaload, 1) := by decide +kernel
theorem dX7_burn_16 : decode cX7_burn 16 = .ok (.iconst 5, 1) := by decide +kernel
theorem dX7_burn_17 : decode cX7_burn 17 = .ok (.iadd, 1) := by decide +kernel
theorem dX7_burn_18 : decode cX7_burn 18 = .ok (.aload_n 0, 1) := by decide +kernel
theorem dX7_burn_19 : decode cX7_burn 19 = .ok (.getfield 13, 3) := by decide +kernel
theorem dX7_burn_22 : decode cX7_burn 22 = .ok (.bipush 6, 2) := by decide +kernel
theorem dX7_burn_24 : decode cX7_burn 24 = .ok (.iload_n 2, 1) := by decide +kernel
theorem dX7_burn_25 : decode cX7_burn 25 = .ok (.iadd, 1) := by decide +kernel
theorem dX7_burn_26 : decode cX7_burn 26 = .ok (.iaload, 1) := by decide +kernel
theorem dX7_burn_27 : decode cX7_burn 27 = .ok (.isub, 1) := by decide +kernel
theorem dX7_burn_28 : decode cX7_burn 28 = .ok (.istore_n 3, 1) := by decide +kernel
theorem dX7_burn_29 : decode cX7_burn 29 = .ok (.aload_n 0, 1) := by decide +kernel
theorem dX7_burn_30 : decode cX7_burn 30 = .ok (.getfield 13, 3) := by decide +kernel
theorem dX7_burn_33 : decode cX7_burn 33 = .ok (.iload_n 2, 1) := by decide +kernel
theorem dX7_burn_34 : decode cX7_burn 34 = .ok (.iaload, 1) := by decide +kernel
theorem dX7_burn_35 : decode cX7_burn 35 = .ok (.ifCond .le 103, 3) := by decide +kernel
theorem dX7_burn_38 : decode cX7_burn 38 = .ok (.iload_n 3, 1) := by decide +kernel
theorem dX7_burn_39 : decode cX7_burn 39 = .ok (.bipush 9, 2) := by decide +kernel
theorem dX7_burn_41 : decode cX7_burn 41 = .ok (.if_icmp .le 21, 3) := by decide +kernel
theorem dX7_burn_44 : decode cX7_burn 44 = .ok (.aload_n 0, 1) := by decide +kernel
theorem dX7_burn_45 : decode cX7_burn 45 = .ok (.getfield 13, 3) := by decide +kernel
theorem dX7_burn_48 : decode cX7_burn 48 = .ok (.bipush 18, 2) := by decide +kernel
theorem dX7_burn_50 : decode cX7_burn 50 = .ok (.iaload, 1) := by decide +kernel
theorem dX7_burn_51 : decode cX7_burn 51 = .ok (.iload_n 2, 1) := by decide +kernel
theorem dX7_burn_52 : decode cX7_burn 52 = .ok (.invokestatic 80, 3) := by decide +kernel
theorem dX7_burn_55 : decode cX7_burn 55 = .ok (.ifCond .ne 7, 3) := by decide +kernel
theorem dX7_burn_58 : decode cX7_burn 58 = .ok (.iconst 1, 1) := by decide +kernel
theorem dX7_burn_59 : decode cX7_burn 59 = .ok (.goto 4, 3) := by decide +kernel
theorem dX7_burn_62 : decode cX7_burn 62 = .ok (.iconst 0, 1) := by decide +kernel
theorem dX7_burn_63 : decode cX7_burn 63 = .ok (.istore 4, 2) := by decide +kernel
theorem dX7_burn_65 : decode cX7_burn 65 = .ok (.iload_n 1, 1) := by decide +kernel
theorem dX7_burn_66 : decode cX7_burn 66 = .ok (.iload 4, 2) := by decide +kernel
theorem dX7_burn_68 : decode cX7_burn 68 = .ok (.ifCond .eq 9, 3) := by decide +kernel
theorem dX7_burn_71 : decode cX7_burn 71 = .ok (.iconst 1, 1) := by decide +kernel
theorem dX7_burn_72 : decode cX7_burn 72 = .ok (.iload_n 2, 1) := by decide +kernel
theorem dX7_burn_73 : decode cX7_burn 73 = .ok (.ishl, 1) := by decide +kernel
theorem dX7_burn_74 : decode cX7_burn 74 = .ok (.goto 4, 3) := by decide +kernel
theorem dX7_burn_77 : decode cX7_burn 77 = .ok (.iconst 0, 1) := by decide +kernel
theorem dX7_burn_78 : decode cX7_burn 78 = .ok (.ior, 1) := by decide +kernel
theorem dX7_burn_79 : decode cX7_burn 79 = .ok (.istore_n 1, 1) := by decide +kernel
theorem dX7_burn_80 : decode cX7_burn 80 = .ok (.aload_n 0, 1) := by decide +kernel
theorem dX7_burn_81 : decode cX7_burn 81 = .ok (.getfield 13, 3) := by decide +kernel
theorem dX7_burn_84 : decode cX7_burn 84 = .ok (.bipush 20, 2) := by decide +kernel
theorem dX7_burn_86 : decode cX7_burn 86 = .ok (.dup2, 1) := by decide +kernel
theorem dX7_burn_87 : decode cX7_burn 87 = .ok (.iaload, 1) := by decide +kernel
theorem dX7_burn_88 : decode cX7_burn 88 = .ok (.iload_n 3, 1) := by decide +kernel
theorem dX7_burn_89 : decode cX7_burn 89 = .ok (.iconst 1, 1) := by decide +kernel
theorem dX7_burn_90 : decode cX7_burn 90 = .ok (.if_icmp .ge 9, 3) := by decide +kernel
theorem dX7_burn_93 : decode cX7_burn 93 = .ok (.iconst 1, 1) := by decide +kernel
theorem dX7_burn_94 : decode cX7_burn 94 = .ok (.iload_n 2, 1) := by decide +kernel
theorem dX7_burn_95 : decode cX7_burn 95 = .ok (.ishl, 1) := by decide +kernel
theorem dX7_burn_96 : decode cX7_burn 96 = .ok (.goto 4, 3) := by decide +kernel
theorem dX7_burn_99 : decode cX7_burn 99 = .ok (.iconst 0, 1) := by decide +kernel
theorem dX7_burn_100 : decode cX7_burn 100 = .ok (.ior, 1) := by decide +kernel
theorem dX7_burn_101 : decode cX7_burn 101 = .ok (.iastore, 1) := by decide +kernel
theorem dX7_burn_102 : decode cX7_burn 102 = .ok (.aload_n 0, 1) := by decide +kernel
theorem dX7_burn_103 : decode cX7_burn 103 = .ok (.getfield 13, 3) := by decide +kernel
theorem dX7_burn_106 : decode cX7_burn 106 = .ok (.iload_n 2, 1) := by decide +kernel
theorem dX7_burn_107 : decode cX7_burn 107 = .ok (.iload_n 3, 1) := by decide +kernel
theorem dX7_burn_108 : decode cX7_burn 108 = .ok (.iconst 1, 1) := by decide +kernel
theorem dX7_burn_109 : decode cX7_burn 109 = .ok (.if_icmp .ge 7, 3) := by decide +kernel
theorem dX7_burn_112 : decode cX7_burn 112 = .ok (.iconst 0, 1) := by decide +kernel
theorem dX7_burn_113 : decode cX7_burn 113 = .ok (.goto 24, 3) := by decide +kernel
theorem dX7_burn_116 : decode cX7_burn 116 = .ok (.iload_n 3, 1) := by decide +kernel
theorem dX7_burn_117 : decode cX7_burn 117 = .ok (.bipush 10, 2) := by decide +kernel
theorem dX7_burn_119 : decode cX7_burn 119 = .ok (.if_icmp .ge 7, 3) := by decide +kernel
theorem dX7_burn_122 : decode cX7_burn 122 = .ok (.iload_n 3, 1) := by decide +kernel
theorem dX7_burn_123 : decode cX7_burn 123 = .ok (.goto 14, 3) := by decide +kernel
theorem dX7_burn_126 : decode cX7_burn 126 = .ok (.iload 4, 2) := by decide +kernel
theorem dX7_burn_128 : decode cX7_burn 128 = .ok (.ifCond .eq 8, 3) := by decide +kernel
theorem dX7_burn_131 : decode cX7_burn 131 = .ok (.bipush 9, 2) := by decide +kernel
theorem dX7_burn_133 : decode cX7_burn 133 = .ok (.goto 4, 3) := by decide +kernel
theorem dX7_burn_136 : decode cX7_burn 136 = .ok (.iconst 5, 1) := by decide +kernel
theorem dX7_burn_137 : decode cX7_burn 137 = .ok (.iastore, 1) := by decide +kernel
theorem dX7_burn_138 : decode cX7_burn 138 = .ok (.iinc 2 1, 3) := by decide +kernel
theorem dX7_burn_141 : decode cX7_burn 141 = .ok (.goto (-137), 3) := by decide +kernel
theorem dX7_burn_144 : decode cX7_burn 144 = .ok (.iconst 0, 1) := by decide +kernel
theorem dX7_burn_145 : decode cX7_burn 145 = .ok (.istore_n 2, 1) := by decide +kernel
theorem dX7_burn_146 : decode cX7_burn 146 = .ok (.iload_n 2, 1) := by decide +kernel
theorem dX7_burn_147 : decode cX7_burn 147 = .ok (.bipush 6, 2) := by decide +kernel
theorem dX7_burn_149 : decode cX7_burn 149 = .ok (.if_icmp .ge 110, 3) := by decide +kernel
theorem dX7_burn_152 : decode cX7_burn 152 = .ok (.iconst 0, 1) := by decide +kernel
theorem dX7_burn_153 : decode cX7_burn 153 = .ok (.istore_n 3, 1) := by decide +kernel
theorem dX7_burn_154 : decode cX7_burn 154 = .ok (.iload_n 3, 1) := by decide +kernel
theorem dX7_burn_155 : decode cX7_burn 155 = .ok (.bipush 6, 2) := by decide +kernel
theorem dX7_burn_157 : decode cX7_burn 157 = .ok (.if_icmp .ge 96, 3) := by decide +kernel
theorem dX7_burn_160 : decode cX7_burn 160 = .ok (.aload_n 0, 1) := by decide +kernel
theorem dX7_burn_161 : decode cX7_burn 161 = .ok (.getfield 13, 3) := by decide +kernel
theorem dX7_burn_164 : decode cX7_burn 164 = .ok (.iload_n 2, 1) := by decide +kernel
theorem dX7_burn_165 : decode cX7_burn 165 = .ok (.iaload, 1) := by decide +kernel
theorem dX7_burn_166 : decode cX7_burn 166 = .ok (.ifCond .le 44, 3) := by decide +kernel
theorem dX7_burn_169 : decode cX7_burn 169 = .ok (.iload_n 3, 1) := by decide +kernel
theorem dX7_burn_170 : decode cX7_burn 170 = .ok (.iload_n 2, 1) := by decide +kernel
theorem dX7_burn_171 : decode cX7_burn 171 = .ok (.if_icmp .eq 39, 3) := by decide +kernel
theorem dX7_burn_174 : decode cX7_burn 174 = .ok (.iload_n 1, 1) := by decide +kernel
theorem dX7_burn_175 : decode cX7_burn 175 = .ok (.iload_n 3, 1) := by decide +kernel
theorem dX7_burn_176 : decode cX7_burn 176 = .ok (.invokestatic 80, 3) := by decide +kernel
theorem dX7_burn_179 : decode cX7_burn 179 = .ok (.ifCond .eq 31, 3) := by decide +kernel
theorem dX7_burn_182 : decode cX7_burn 182 = .ok (.aload_n 0, 1) := by decide +kernel
theorem dX7_burn_183 : decode cX7_burn 183 = .ok (.getfield 13, 3) := by decide +kernel
theorem dX7_burn_186 : decode cX7_burn 186 = .ok (.bipush 12, 2) := by decide +kernel
theorem dX7_burn_188 : decode cX7_burn 188 = .ok (.iload_n 2, 1) := by decide +kernel
theorem dX7_burn_189 : decode cX7_burn 189 = .ok (.iadd, 1) := by decide +kernel
theorem dX7_burn_190 : decode cX7_burn 190 = .ok (.iaload, 1) := by decide +kernel
theorem dX7_burn_191 : decode cX7_burn 191 = .ok (.aload_n 0, 1) := by decide +kernel
theorem dX7_burn_192 : decode cX7_burn 192 = .ok (.getfield 13, 3) := by decide +kernel
theorem dX7_burn_195 : decode cX7_burn 195 = .ok (.bipush 12, 2) := by decide +kernel
theorem dX7_burn_197 : decode cX7_burn 197 = .ok (.iload_n 3, 1) := by decide +kernel
theorem dX7_burn_198 : decode cX7_burn 198 = .ok (.iadd, 1) := by decide +kernel
theorem dX7_burn_199 : decode cX7_burn 199 = .ok (.iaload, 1) := by decide +kernel
theorem dX7_burn_200 : decode cX7_burn 200 = .ok (.invokestatic 84, 3) := by decide +kernel
theorem dX7_burn_203 : decode cX7_burn 203 = .ok (.ifCond .eq 7, 3) := by decide +kernel
theorem dX7_burn_206 : decode cX7_burn 206 = .ok (.iconst 1, 1) := by decide +kernel
theorem dX7_burn_207 : decode cX7_burn 207 = .ok (.goto 4, 3) := by decide +kernel
theorem dX7_burn_210 : decode cX7_burn 210 = .ok (.iconst 0, 1) := by decide +kernel
theorem dX7_burn_211 : decode cX7_burn 211 = .ok (.istore 4, 2) := by decide +kernel
theorem dX7_burn_213 : decode cX7_burn 213 = .ok (.aload_n 0, 1) := by decide +kernel
theorem dX7_burn_214 : decode cX7_burn 214 = .ok (.getfield 13, 3) := by decide +kernel
theorem dX7_burn_217 : decode cX7_burn 217 = .ok (.bipush 6, 2) := by decide +kernel
theorem dX7_burn_219 : decode cX7_burn 219 = .ok (.iload_n 2, 1) := by decide +kernel
theorem dX7_burn_220 : decode cX7_burn 220 = .ok (.iadd, 1) := by decide +kernel
theorem dX7_burn_221 : decode cX7_burn 221 = .ok (.dup2, 1) := by decide +kernel
theorem dX7_burn_222 : decode cX7_burn 222 = .ok (.iaload, 1) := by decide +kernel
theorem dX7_burn_223 : decode cX7_burn 223 = .ok (.iload 4, 2) := by decide +kernel
theorem dX7_burn_225 : decode cX7_burn 225 = .ok (.ifCond .eq 19, 3) := by decide +kernel
theorem dX7_burn_228 : decode cX7_burn 228 = .ok (.aload_n 0, 1) := by decide +kernel
theorem dX7_burn_229 : decode cX7_burn 229 = .ok (.getfield 13, 3) := by decide +kernel
theorem dX7_burn_232 : decode cX7_burn 232 = .ok (.bipush 6, 2) := by decide +kernel
theorem dX7_burn_234 : decode cX7_burn 234 = .ok (.iload_n 2, 1) := by decide +kernel
theorem dX7_burn_235 : decode cX7_burn 235 = .ok (.iadd, 1) := by decide +kernel
theorem dX7_burn_236 : decode cX7_burn 236 = .ok (.iaload, 1) := by decide +kernel
theorem dX7_burn_237 : decode cX7_burn 237 = .ok (.ifCond .le 7, 3) := by decide +kernel
theorem dX7_burn_240 : decode cX7_burn 240 = .ok (.iconst 1, 1) := by decide +kernel
theorem dX7_burn_241 : decode cX7_burn 241 = .ok (.goto 4, 3) := by decide +kernel
theorem dX7_burn_244 : decode cX7_burn 244 = .ok (.iconst 0, 1) := by decide +kernel
theorem dX7_burn_245 : decode cX7_burn 245 = .ok (.isub, 1) := by decide +kernel
theorem dX7_burn_246 : decode cX7_burn 246 = .ok (.iastore, 1) := by decide +kernel
theorem dX7_burn_247 : decode cX7_burn 247 = .ok (.iinc 3 1, 3) := by decide +kernel
theorem dX7_burn_250 : decode cX7_burn 250 = .ok (.goto (-96), 3) := by decide +kernel
theorem dX7_burn_253 : decode cX7_burn 253 = .ok (.iinc 2 1, 3) := by decide +kernel
theorem dX7_burn_256 : decode cX7_burn 256 = .ok (.goto (-110), 3) := by decide +kernel
theorem dX7_burn_259 : decode cX7_burn 259 = .ok (.aload_n 0, 1) := by decide +kernel
theorem dX7_burn_260 : decode cX7_burn 260 = .ok (.getfield 13, 3) := by decide +kernel
theorem dX7_burn_263 : decode cX7_burn 263 = .ok (.bipush 19, 2) := by decide +kernel
theorem dX7_burn_265 : decode cX7_burn 265 = .ok (.dup2, 1) := by decide +kernel
theorem dX7_burn_266 : decode cX7_burn 266 = .ok (.iaload, 1) := by decide +kernel
theorem dX7_burn_267 : decode cX7_burn 267 = .ok (.iload_n 1, 1) := by decide +kernel
theorem dX7_burn_268 : decode cX7_burn 268 = .ok (.ior, 1) := by decide +kernel
theorem dX7_burn_269 : decode cX7_burn 269 = .ok (.iastore, 1) := by decide +kernel
theorem dX7_burn_270 : decode cX7_burn 270 = .ok (.aload_n 0, 1) := by decide +kernel
theorem dX7_burn_271 : decode cX7_burn 271 = .ok (.dup, 1) := by decide +kernel
theorem dX7_burn_272 : decode cX7_burn 272 = .ok (.getfield 67, 3) := by decide +kernel
theorem dX7_burn_275 : decode cX7_burn 275 = .ok (.iload_n 1, 1) := by decide +kernel
theorem dX7_burn_276 : decode cX7_burn 276 = .ok (.invokestatic 56, 3) := by decide +kernel
theorem dX7_burn_279 : decode cX7_burn 279 = .ok (.iadd, 1) := by decide +kernel
theorem dX7_burn_280 : decode cX7_burn 280 = .ok (.putfield 67, 3) := by decide +kernel
theorem dX7_burn_283 : decode cX7_burn 283 = .ok (.iload_n 1, 1) := by decide +kernel
theorem dX7_burn_284 : decode cX7_burn 284 = .ok (.ireturn, 1) := by decide +kernel
theorem dX7_endNight_0 : decode cX7_endNight 0 = .ok (.aload_n 0, 1) := by decide +kernel
theorem dX7_endNight_1 : decode cX7_endNight 1 = .ok (.getfield 13, 3) := by decide +kernel
theorem dX7_endNight_4 : decode cX7_endNight 4 = .ok (.bipush 21, 2) := by decide +kernel
theorem dX7_endNight_6 : decode cX7_endNight 6 = .ok (.iaload, 1) := by decide +kernel
theorem dX7_endNight_7 : decode cX7_endNight 7 = .ok (.bipush 99, 2) := by decide +kernel
theorem dX7_endNight_9 : decode cX7_endNight 9 = .ok (.if_icmp .ne 6, 3) := by decide +kernel
theorem dX7_endNight_12 : decode cX7_endNight 12 = .ok (.bipush 7, 2) := by decide +kernel
theorem dX7_endNight_14 : decode cX7_endNight 14 = .ok (.ireturn, 1) := by decide +kernel
theorem dX7_endNight_15 : decode cX7_endNight 15 = .ok (.aload_n 0, 1) := by decide +kernel
theorem dX7_endNight_16 : decode cX7_endNight 16 = .ok (.getfield 13, 3) := by decide +kernel
theorem dX7_endNight_19 : decode cX7_endNight 19 = .ok (.bipush 21, 2) := by decide +kernel
theorem dX7_endNight_21 : decode cX7_endNight 21 = .ok (.dup2, 1) := by decide +kernel
theorem dX7_endNight_22 : decode cX7_endNight 22 = .ok (.iaload, 1) := by decide +kernel
theorem dX7_endNight_23 : decode cX7_endNight 23 = .ok (.iconst 1, 1) := by decide +kernel
theorem dX7_endNight_24 : decode cX7_endNight 24 = .ok (.iadd, 1) := by decide +kernel
theorem dX7_endNight_25 : decode cX7_endNight 25 = .ok (.iastore, 1) := by decide +kernel
theorem dX7_endNight_26 : decode cX7_endNight 26 = .ok (.aload_n 0, 1) := by decide +kernel
theorem dX7_endNight_27 : decode cX7_endNight 27 = .ok (.aload_n 0, 1) := by decide +kernel
theorem dX7_endNight_28 : decode cX7_endNight 28 = .ok (.invokevirtual 87, 3) := by decide +kernel
theorem dX7_endNight_31 : decode cX7_endNight 31 = .ok (.putfield 90, 3) := by decide +kernel
theorem dX7_endNight_34 : decode cX7_endNight 34 = .ok (.iconst 0, 1) := by decide +kernel
theorem dX7_endNight_35 : decode cX7_endNight 35 = .ok (.ireturn, 1) := by decide +kernel
theorem dX7_goWeeks_0 : decode cX7_goWeeks 0 = .ok (.aload_n 0, 1) := by decide +kernel
theorem dX7_goWeeks_1 : decode cX7_goWeeks 1 = .ok (.invokevirtual 93, 3) := by decide +kernel
theorem dX7_goWeeks_4 : decode cX7_goWeeks 4 = .ok (.aload_n 0, 1) := by decide +kernel
theorem dX7_goWeeks_5 : decode cX7_goWeeks 5 = .ok (.iconst 0, 1) := by decide +kernel
theorem dX7_goWeeks_6 : decode cX7_goWeeks 6 = .ok (.putfield 96, 3) := by decide +kernel
theorem dX7_goWeeks_9 : decode cX7_goWeeks 9 = .ok (.iconst 0, 1) := by decide +kernel
theorem dX7_goWeeks_10 : decode cX7_goWeeks 10 = .ok (.istore_n 1, 1) := by decide +kernel
theorem dX7_goWeeks_11 : decode cX7_goWeeks 11 = .ok (.iload_n 1, 1) := by decide +kernel
theorem dX7_goWeeks_12 : decode cX7_goWeeks 12 = .ok (.aload_n 0, 1) := by decide +kernel
theorem dX7_goWeeks_13 : decode cX7_goWeeks 13 = .ok (.getfield 60, 3) := by decide +kernel
theorem dX7_goWeeks_16 : decode cX7_goWeeks 16 = .ok (.if_icmp .ge 196, 3) := by decide +kernel
theorem dX7_goWeeks_19 : decode cX7_goWeeks 19 = .ok (.aload_n 0, 1) := by decide +kernel
theorem dX7_goWeeks_20 : decode cX7_goWeeks 20 = .ok (.iconst 0, 1) := by decide +kernel
theorem dX7_goWeeks_21 : decode cX7_goWeeks 21 = .ok (.putfield 90, 3) := by decide +kernel
theorem dX7_goWeeks_24 : decode cX7_goWeeks 24 = .ok (.aload_n 0, 1) := by decide +kernel
theorem dX7_goWeeks_25 : decode cX7_goWeeks 25 = .ok (.getfield 23, 3) := by decide +kernel
theorem dX7_goWeeks_28 : decode cX7_goWeeks 28 = .ok (.iload_n 1, 1) := by decide +kernel
theorem dX7_goWeeks_29 : decode cX7_goWeeks 29 = .ok (.iaload, 1) := by decide +kernel
theorem dX7_goWeeks_30 : decode cX7_goWeeks 30 = .ok (.bipush 46, 2) := by decide +kernel
theorem dX7_goWeeks_32 : decode cX7_goWeeks 32 = .ok (.if_icmp .ne 17, 3) := by decide +kernel
theorem dX7_goWeeks_35 : decode cX7_goWeeks 35 = .ok (.aload_n 0, 1) := by decide +kernel
theorem dX7_goWeeks_36 : decode cX7_goWeeks 36 = .ok (.aload_n 0, 1) := by decide +kernel
theorem dX7_goWeeks_37 : decode cX7_goWeeks 37 = .ok (.invokevirtual 99, 3) := by decide +kernel
theorem dX7_goWeeks_40 : decode cX7_goWeeks 40 = .ok (.putfield 102, 3) := by decide +kernel
theorem dX7_goWeeks_43 : decode cX7_goWeeks 43 = .ok (.iinc 1 1, 3) := by decide +kernel
theorem dX7_goWeeks_46 : decode cX7_goWeeks 46 = .ok (.goto 96, 3) := by decide +kernel
theorem dX7_goWeeks_49 : decode cX7_goWeeks 49 = .ok (.aload_n 0, 1) := by decide +kernel
theorem dX7_goWeeks_50 : decode cX7_goWeeks 50 = .ok (.getfield 23, 3) := by decide +kernel
theorem dX7_goWeeks_53 : decode cX7_goWeeks 53 = .ok (.iload_n 1, 1) := by decide +kernel
theorem dX7_goWeeks_54 : decode cX7_goWeeks 54 = .ok (.iaload, 1) := by decide +kernel
theorem dX7_goWeeks_55 : decode cX7_goWeeks 55 = .ok (.bipush 65, 2) := by decide +kernel
theorem dX7_goWeeks_57 : decode cX7_goWeeks 57 = .ok (.isub, 1) := by decide +kernel
theorem dX7_goWeeks_58 : decode cX7_goWeeks 58 = .ok (.istore_n 2, 1) := by decide +kernel
theorem dX7_goWeeks_59 : decode cX7_goWeeks 59 = .ok (.aload_n 0, 1) := by decide +kernel
theorem dX7_goWeeks_60 : decode cX7_goWeeks 60 = .ok (.getfield 23, 3) := by decide +kernel
theorem dX7_goWeeks_63 : decode cX7_goWeeks 63 = .ok (.iload_n 1, 1) := by decide +kernel
theorem dX7_goWeeks_64 : decode cX7_goWeeks 64 = .ok (.iconst 1, 1) := by decide +kernel
theorem dX7_goWeeks_65 : decode cX7_goWeeks 65 = .ok (.iadd, 1) := by decide +kernel
theorem dX7_goWeeks_66 : decode cX7_goWeeks 66 = .ok (.iaload, 1) := by decide +kernel
theorem dX7_goWeeks_67 : decode cX7_goWeeks 67 = .ok (.istore_n 3, 1) := by decide +kernel
theorem dX7_goWeeks_68 : decode cX7_goWeeks 68 = .ok (.aload_n 0, 1) := by decide +kernel
theorem dX7_goWeeks_69 : decode cX7_goWeeks 69 = .ok (.iload_n 3, 1) := by decide +kernel
theorem dX7_goWeeks_70 : decode cX7_goWeeks 70 = .ok (.bipush 43, 2) := by decide +kernel
theorem dX7_goWeeks_72 : decode cX7_goWeeks 72 = .ok (.if_icmp .ne 12, 3) := by decide +kernel
theorem dX7_goWeeks_75 : decode cX7_goWeeks 75 = .ok (.aload_n 0, 1) := by decide +kernel
theorem dX7_goWeeks_76 : decode cX7_goWeeks 76 = .ok (.iload_n 2, 1) := by decide +kernel
theorem dX7_goWeeks_77 : decode cX7_goWeeks 77 = .ok (.iconst 1, 1) := by decide +kernel
theorem dX7_goWeeks_78 : decode cX7_goWeeks 78 = .ok (.invokevirtual 105, 3) := by decide +kernel
theorem dX7_goWeeks_81 : decode cX7_goWeeks 81 = .ok (.goto 55, 3) := by decide +kernel
theorem dX7_goWeeks_84 : decode cX7_goWeeks 84 = .ok (.iload_n 3, 1) := by decide +kernel
theorem dX7_goWeeks_85 : decode cX7_goWeeks 85 = .ok (.bipush 45, 2) := by decide +kernel
theorem dX7_goWeeks_87 : decode cX7_goWeeks 87 = .ok (.if_icmp .ne 12, 3) := by decide +kernel
theorem dX7_goWeeks_90 : decode cX7_goWeeks 90 = .ok (.aload_n 0, 1) := by decide +kernel
theorem dX7_goWeeks_91 : decode cX7_goWeeks 91 = .ok (.iload_n 2, 1) := by decide +kernel
theorem dX7_goWeeks_92 : decode cX7_goWeeks 92 = .ok (.iconst (-1), 1) := by decide +kernel
theorem dX7_goWeeks_93 : decode cX7_goWeeks 93 = .ok (.invokevirtual 105, 3) := by decide +kernel
theorem dX7_goWeeks_96 : decode cX7_goWeeks 96 = .ok (.goto 40, 3) := by decide +kernel
theorem dX7_goWeeks_99 : decode cX7_goWeeks 99 = .ok (.iload_n 3, 1) := by decide +kernel
theorem dX7_goWeeks_100 : decode cX7_goWeeks 100 = .ok (.bipush 42, 2) := by decide +kernel
theorem dX7_goWeeks_102 : decode cX7_goWeeks 102 = .ok (.if_icmp .ne 11, 3) := by decide +kernel
theorem dX7_goWeeks_105 : decode cX7_goWeeks 105 = .ok (.aload_n 0, 1) := by decide +kernel
theorem dX7_goWeeks_106 : decode cX7_goWeeks 106 = .ok (.iload_n 2, 1) := by decide +kernel
theorem dX7_goWeeks_107 : decode cX7_goWeeks 107 = .ok (.invokevirtual 108, 3) := by decide +kernel
theorem dX7_goWeeks_110 : decode cX7_goWeeks 110 = .ok (.goto 26, 3) := by decide +kernel
theorem dX7_goWeeks_113 : decode cX7_goWeeks 113 = .ok (.iload_n 3, 1) := by decide +kernel
theorem dX7_goWeeks_114 : decode cX7_goWeeks 114 = .ok (.bipush 94, 2) := by decide +kernel
theorem dX7_goWeeks_116 : decode cX7_goWeeks 116 = .ok (.if_icmp .ne 11, 3) := by decide +kernel
theorem dX7_goWeeks_119 : decode cX7_goWeeks 119 = .ok (.aload_n 0, 1) := by decide +kernel
theorem dX7_goWeeks_120 : decode cX7_goWeeks 120 = .ok (.iload_n 2, 1) := by decide +kernel
theorem dX7_goWeeks_121 : decode cX7_goWeeks 121 = .ok (.invokevirtual 111, 3) := by decide +kernel
theorem dX7_goWeeks_124 : decode cX7_goWeeks 124 = .ok (.goto 12, 3) := by decide +kernel
theorem dX7_goWeeks_127 : decode cX7_goWeeks 127 = .ok (.aload_n 0, 1) := by decide +kernel
theorem dX7_goWeeks_128 : decode cX7_goWeeks 128 = .ok (.iload_n 2, 1) := by decide +kernel
theorem dX7_goWeeks_129 : decode cX7_goWeeks 129 = .ok (.iload_n 3, 1) := by decide +kernel
theorem dX7_goWeeks_130 : decode cX7_goWeeks 130 = .ok (.bipush 97, 2) := by decide +kernel
theorem dX7_goWeeks_132 : decode cX7_goWeeks 132 = .ok (.isub, 1) := by decide +kernel
theorem dX7_goWeeks_133 : decode cX7_goWeeks 133 = .ok (.invokevirtual 114, 3) := by decide +kernel
theorem dX7_goWeeks_136 : decode cX7_goWeeks 136 = .ok (.putfield 102, 3) := by decide +kernel
theorem dX7_goWeeks_139 : decode cX7_goWeeks 139 = .ok (.iinc 1 2, 3) := by decide +kernel
theorem dX7_goWeeks_142 : decode cX7_goWeeks 142 = .ok (.aload_n 0, 1) := by decide +kernel
theorem dX7_goWeeks_143 : decode cX7_goWeeks 143 = .ok (.getfield 102, 3) := by decide +kernel
theorem dX7_goWeeks_146 : decode cX7_goWeeks 146 = .ok (.ifCond .le 8, 3) := by decide +kernel
theorem dX7_goWeeks_149 : decode cX7_goWeeks 149 = .ok (.aload_n 0, 1) := by decide +kernel
theorem dX7_goWeeks_150 : decode cX7_goWeeks 150 = .ok (.getfield 96, 3) := by decide +kernel
theorem dX7_goWeeks_153 : decode cX7_goWeeks 153 = .ok (.ireturn, 1) := by decide +kernel
theorem dX7_goWeeks_154 : decode cX7_goWeeks 154 = .ok (.iconst 0, 1) := by decide +kernel
theorem dX7_goWeeks_155 : decode cX7_goWeeks 155 = .ok (.istore_n 2, 1) := by decide +kernel
theorem dX7_goWeeks_156 : decode cX7_goWeeks 156 = .ok (.iload_n 2, 1) := by decide +kernel
theorem dX7_goWeeks_157 : decode cX7_goWeeks 157 = .ok (.bipush 6, 2) := by decide +kernel
theorem dX7_goWeeks_159 : decode cX7_goWeeks 159 = .ok (.if_icmp .ge 40, 3) := by decide +kernel
theorem dX7_goWeeks_162 : decode cX7_goWeeks 162 = .ok (.aload_n 0, 1) := by decide +kernel
theorem dX7_goWeeks_163 : decode cX7_goWeeks 163 = .ok (.getfield 70, 3) := by decide +kernel
theorem dX7_goWeeks_166 : decode cX7_goWeeks 166 = .ok (.ifCond .ge 33, 3) := by decide +kernel
theorem dX7_goWeeks_169 : decode cX7_goWeeks 169 = .ok (.aload_n 0, 1) := by decide +kernel
theorem dX7_goWeeks_170 : decode cX7_goWeeks 170 = .ok (.getfield 90, 3) := by decide +kernel
theorem dX7_goWeeks_173 : decode cX7_goWeeks 173 = .ok (.iload_n 2, 1) := by decide +kernel
theorem dX7_goWeeks_174 : decode cX7_goWeeks 174 = .ok (.invokestatic 80, 3) := by decide +kernel
theorem dX7_goWeeks_177 : decode cX7_goWeeks 177 = .ok (.ifCond .eq 16, 3) := by decide +kernel
theorem dX7_goWeeks_180 : decode cX7_goWeeks 180 = .ok (.aload_n 0, 1) := by decide +kernel
theorem dX7_goWeeks_181 : decode cX7_goWeeks 181 = .ok (.aload_n 0, 1) := by decide +kernel
theorem dX7_goWeeks_182 : decode cX7_goWeeks 182 = .ok (.getfield 96, 3) := by decide +kernel
theorem dX7_goWeeks_185 : decode cX7_goWeeks 185 = .ok (.putfield 70, 3) := by decide +kernel
theorem dX7_goWeeks_188 : decode cX7_goWeeks 188 = .ok (.aload_n 0, 1) := by decide +kernel
theorem dX7_goWeeks_189 : decode cX7_goWeeks 189 = .ok (.iload_n 2, 1) := by decide +kernel
theorem dX7_goWeeks_190 : decode cX7_goWeeks 190 = .ok (.putfield 73, 3) := by decide +kernel
theorem dX7_goWeeks_193 : decode cX7_goWeeks 193 = .ok (.iinc 2 1, 3) := by decide +kernel
theorem dX7_goWeeks_196 : decode cX7_goWeeks 196 = .ok (.goto (-40), 3) := by decide +kernel
theorem dX7_goWeeks_199 : decode cX7_goWeeks 199 = .ok (.aload_n 0, 1) := by decide +kernel
theorem dX7_goWeeks_200 : decode cX7_goWeeks 200 = .ok (.dup, 1) := by decide +kernel
theorem dX7_goWeeks_201 : decode cX7_goWeeks 201 = .ok (.getfield 96, 3) := by decide +kernel
theorem dX7_goWeeks_204 : decode cX7_goWeeks 204 = .ok (.iconst 1, 1) := by decide +kernel
theorem dX7_goWeeks_205 : decode cX7_goWeeks 205 = .ok (.iadd, 1) := by decide +kernel
theorem dX7_goWeeks_206 : decode cX7_goWeeks 206 = .ok (.putfield 96, 3) := by decide +kernel
theorem dX7_goWeeks_209 : decode cX7_goWeeks 209 = .ok (.goto (-198), 3) := by decide +kernel
theorem dX7_goWeeks_212 : decode cX7_goWeeks 212 = .ok (.bipush (-6), 2) := by decide +kernel
theorem dX7_goWeeks_214 : decode cX7_goWeeks 214 = .ok (.ireturn, 1) := by decide +kernel
theorem dX7_judge_0 : decode cX7_judge 0 = .ok (.iload_n 1, 1) := by decide +kernel
theorem dX7_judge_1 : decode cX7_judge 1 = .ok (.iconst 0, 1) := by decide +kernel
theorem dX7_judge_2 : decode cX7_judge 2 = .ok (.iconst 1, 1) := by decide +kernel
theorem dX7_judge_3 : decode cX7_judge 3 = .ok (.invokestatic 48, 3) := by decide +kernel
theorem dX7_judge_6 : decode cX7_judge 6 = .ok (.ifCond .ne 6, 3) := by decide +kernel
theorem dX7_judge_9 : decode cX7_judge 9 = .ok (.bipush (-2), 2) := by decide +kernel
theorem dX7_judge_11 : decode cX7_judge 11 = .ok (.ireturn, 1) := by decide +kernel
theorem dX7_judge_12 : decode cX7_judge 12 = .ok (.aload_n 0, 1) := by decide +kernel
theorem dX7_judge_13 : decode cX7_judge 13 = .ok (.invokevirtual 63, 3) := by decide +kernel
theorem dX7_judge_16 : decode cX7_judge 16 = .ok (.ifCond .lt 6, 3) := by decide +kernel
theorem dX7_judge_19 : decode cX7_judge 19 = .ok (.bipush (-5), 2) := by decide +kernel
theorem dX7_judge_21 : decode cX7_judge 21 = .ok (.ireturn, 1) := by decide +kernel
theorem dX7_judge_22 : decode cX7_judge 22 = .ok (.aload_n 0, 1) := by decide +kernel
theorem dX7_judge_23 : decode cX7_judge 23 = .ok (.invokevirtual 117, 3) := by decide +kernel
theorem dX7_judge_26 : decode cX7_judge 26 = .ok (.istore_n 2, 1) := by decide +kernel
theorem dX7_judge_27 : decode cX7_judge 27 = .ok (.iload_n 2, 1) := by decide +kernel
theorem dX7_judge_28 : decode cX7_judge 28 = .ok (.ifCond .lt 7, 3) := by decide +kernel
theorem dX7_judge_31 : decode cX7_judge 31 = .ok (.iload_n 1, 1) := by decide +kernel
theorem dX7_judge_32 : decode cX7_judge 32 = .ok (.ifCond .ne 7, 3) := by decide +kernel
theorem dX7_judge_35 : decode cX7_judge 35 = .ok (.iload_n 2, 1) := by decide +kernel
theorem dX7_judge_36 : decode cX7_judge 36 = .ok (.goto 7, 3) := by decide +kernel
theorem dX7_judge_39 : decode cX7_judge 39 = .ok (.aload_n 0, 1) := by decide +kernel
theorem dX7_judge_40 : decode cX7_judge 40 = .ok (.getfield 102, 3) := by decide +kernel
theorem dX7_judge_43 : decode cX7_judge 43 = .ok (.ireturn, 1) := by decide +kernel
theorem dX7_barOfWeeks_0 : decode cX7_barOfWeeks 0 = .ok (.aload_n 0, 1) := by decide +kernel
theorem dX7_barOfWeeks_1 : decode cX7_barOfWeeks 1 = .ok (.invokevirtual 63, 3) := by decide +kernel
theorem dX7_barOfWeeks_4 : decode cX7_barOfWeeks 4 = .ok (.ifCond .ge 10, 3) := by decide +kernel
theorem dX7_barOfWeeks_7 : decode cX7_barOfWeeks 7 = .ok (.aload_n 0, 1) := by decide +kernel
theorem dX7_barOfWeeks_8 : decode cX7_barOfWeeks 8 = .ok (.invokevirtual 117, 3) := by decide +kernel
theorem dX7_barOfWeeks_11 : decode cX7_barOfWeeks 11 = .ok (.ifCond .lt 8, 3) := by decide +kernel
theorem dX7_barOfWeeks_14 : decode cX7_barOfWeeks 14 = .ok (.bipush (-5), 2) := by decide +kernel
theorem dX7_barOfWeeks_16 : decode cX7_barOfWeeks 16 = .ok (.goto 4, 3) := by decide +kernel
theorem dX7_barOfWeeks_19 : decode cX7_barOfWeeks 19 = .ok (.iconst 0, 1) := by decide +kernel
theorem dX7_barOfWeeks_20 : decode cX7_barOfWeeks 20 = .ok (.ireturn, 1) := by decide +kernel
theorem dX7_done_0 : decode cX7_done 0 = .ok (.aload_n 0, 1) := by decide +kernel
theorem dX7_done_1 : decode cX7_done 1 = .ok (.invokevirtual 120, 3) := by decide +kernel
theorem dX7_done_4 : decode cX7_done 4 = .ok (.ifCond .ge 6, 3) := by decide +kernel
theorem dX7_done_7 : decode cX7_done 7 = .ok (.bipush (-5), 2) := by decide +kernel
theorem dX7_done_9 : decode cX7_done 9 = .ok (.ireturn, 1) := by decide +kernel
theorem dX7_done_10 : decode cX7_done 10 = .ok (.iconst 0, 1) := by decide +kernel
theorem dX7_done_11 : decode cX7_done 11 = .ok (.istore_n 1, 1) := by decide +kernel
theorem dX7_done_12 : decode cX7_done 12 = .ok (.iload_n 1, 1) := by decide +kernel
theorem dX7_done_13 : decode cX7_done 13 = .ok (.bipush 22, 2) := by decide +kernel
theorem dX7_done_15 : decode cX7_done 15 = .ok (.if_icmp .ge 21, 3) := by decide +kernel
theorem dX7_done_18 : decode cX7_done 18 = .ok (.aload_n 0, 1) := by decide +kernel
theorem dX7_done_19 : decode cX7_done 19 = .ok (.getfield 7, 3) := by decide +kernel
theorem dX7_done_22 : decode cX7_done 22 = .ok (.iload_n 1, 1) := by decide +kernel
theorem dX7_done_23 : decode cX7_done 23 = .ok (.aload_n 0, 1) := by decide +kernel
theorem dX7_done_24 : decode cX7_done 24 = .ok (.getfield 13, 3) := by decide +kernel
theorem dX7_done_27 : decode cX7_done 27 = .ok (.iload_n 1, 1) := by decide +kernel
theorem dX7_done_28 : decode cX7_done 28 = .ok (.iaload, 1) := by decide +kernel
theorem dX7_done_29 : decode cX7_done 29 = .ok (.iastore, 1) := by decide +kernel
theorem dX7_done_30 : decode cX7_done 30 = .ok (.iinc 1 1, 3) := by decide +kernel
theorem dX7_done_33 : decode cX7_done 33 = .ok (.goto (-21), 3) := by decide +kernel
theorem dX7_done_36 : decode cX7_done 36 = .ok (.aload_n 0, 1) := by decide +kernel
theorem dX7_done_37 : decode cX7_done 37 = .ok (.iconst 0, 1) := by decide +kernel
theorem dX7_done_38 : decode cX7_done 38 = .ok (.putfield 60, 3) := by decide +kernel
theorem dX7_done_41 : decode cX7_done 41 = .ok (.aload_n 0, 1) := by decide +kernel
theorem dX7_done_42 : decode cX7_done 42 = .ok (.getfield 96, 3) := by decide +kernel
theorem dX7_done_45 : decode cX7_done 45 = .ok (.ireturn, 1) := by decide +kernel
theorem dX7_behind_0 : decode cX7_behind 0 = .ok (.iload_n 1, 1) := by decide +kernel
theorem dX7_behind_1 : decode cX7_behind 1 = .ok (.invokestatic 52, 3) := by decide +kernel
theorem dX7_behind_4 : decode cX7_behind 4 = .ok (.ifCond .ne 5, 3) := by decide +kernel
theorem dX7_behind_7 : decode cX7_behind 7 = .ok (.iconst (-1), 1) := by decide +kernel
theorem dX7_behind_8 : decode cX7_behind 8 = .ok (.ireturn, 1) := by decide +kernel
theorem dX7_behind_9 : decode cX7_behind 9 = .ok (.iload_n 2, 1) := by decide +kernel
theorem dX7_behind_10 : decode cX7_behind 10 = .ok (.iconst 0, 1) := by decide +kernel
theorem dX7_behind_11 : decode cX7_behind 11 = .ok (.iconst 2, 1) := by decide +kernel
theorem dX7_behind_12 : decode cX7_behind 12 = .ok (.invokestatic 48, 3) := by decide +kernel
theorem dX7_behind_15 : decode cX7_behind 15 = .ok (.ifCond .ne 6, 3) := by decide +kernel
theorem dX7_behind_18 : decode cX7_behind 18 = .ok (.bipush (-2), 2) := by decide +kernel
theorem dX7_behind_20 : decode cX7_behind 20 = .ok (.ireturn, 1) := by decide +kernel
theorem dX7_behind_21 : decode cX7_behind 21 = .ok (.aload_n 0, 1) := by decide +kernel
theorem dX7_behind_22 : decode cX7_behind 22 = .ok (.invokevirtual 120, 3) := by decide +kernel
theorem dX7_behind_25 : decode cX7_behind 25 = .ok (.ifCond .ge 8, 3) := by decide +kernel
theorem dX7_behind_28 : decode cX7_behind 28 = .ok (.bipush (-5), 2) := by decide +kernel
theorem dX7_behind_30 : decode cX7_behind 30 = .ok (.goto 14, 3) := by decide +kernel
theorem dX7_behind_33 : decode cX7_behind 33 = .ok (.aload_n 0, 1) := by decide +kernel
theorem dX7_behind_34 : decode cX7_behind 34 = .ok (.getfield 13, 3) := by decide +kernel
theorem dX7_behind_37 : decode cX7_behind 37 = .ok (.bipush 6, 2) := by decide +kernel
theorem dX7_behind_39 : decode cX7_behind 39 = .ok (.iload_n 2, 1) := by decide +kernel
theorem dX7_behind_40 : decode cX7_behind 40 = .ok (.imul, 1) := by decide +kernel
theorem dX7_behind_41 : decode cX7_behind 41 = .ok (.iload_n 1, 1) := by decide +kernel
theorem dX7_behind_42 : decode cX7_behind 42 = .ok (.iadd, 1) := by decide +kernel
theorem dX7_behind_43 : decode cX7_behind 43 = .ok (.iaload, 1) := by decide +kernel
theorem dX7_behind_44 : decode cX7_behind 44 = .ok (.ireturn, 1) := by decide +kernel
theorem dX7_then_0 : decode cX7_then 0 = .ok (.iload_n 1, 1) := by decide +kernel
theorem dX7_then_1 : decode cX7_then 1 = .ok (.iconst 0, 1) := by decide +kernel
theorem dX7_then_2 : decode cX7_then 2 = .ok (.bipush 6, 2) := by decide +kernel
theorem dX7_then_4 : decode cX7_then 4 = .ok (.invokestatic 48, 3) := by decide +kernel
theorem dX7_then_7 : decode cX7_then 7 = .ok (.ifCond .ne 6, 3) := by decide +kernel
theorem dX7_then_10 : decode cX7_then 10 = .ok (.bipush (-2), 2) := by decide +kernel
theorem dX7_then_12 : decode cX7_then 12 = .ok (.ireturn, 1) := by decide +kernel
theorem dX7_then_13 : decode cX7_then 13 = .ok (.aload_n 0, 1) := by decide +kernel
theorem dX7_then_14 : decode cX7_then 14 = .ok (.invokevirtual 120, 3) := by decide +kernel
theorem dX7_then_17 : decode cX7_then 17 = .ok (.ifCond .ge 6, 3) := by decide +kernel
theorem dX7_then_20 : decode cX7_then 20 = .ok (.bipush (-5), 2) := by decide +kernel
theorem dX7_then_22 : decode cX7_then 22 = .ok (.ireturn, 1) := by decide +kernel
theorem dX7_then_23 : decode cX7_then 23 = .ok (.iload_n 1, 1) := by decide +kernel
theorem dX7_then_24 : decode cX7_then 24 = .ok (.tableswitch 73 0 4 #[36, 44, 52, 60, 65], 36) := by decide +kernel
theorem dX7_then_60 : decode cX7_then 60 = .ok (.aload_n 0, 1) := by decide +kernel
theorem dX7_then_61 : decode cX7_then 61 = .ok (.getfield 13, 3) := by decide +kernel
theorem dX7_then_64 : decode cX7_then 64 = .ok (.bipush 19, 2) := by decide +kernel
theorem dX7_then_66 : decode cX7_then 66 = .ok (.iaload, 1) := by decide +kernel
theorem dX7_then_67 : decode cX7_then 67 = .ok (.ireturn, 1) := by decide +kernel
theorem dX7_then_68 : decode cX7_then 68 = .ok (.aload_n 0, 1) := by decide +kernel
theorem dX7_then_69 : decode cX7_then 69 = .ok (.getfield 13, 3) := by decide +kernel
theorem dX7_then_72 : decode cX7_then 72 = .ok (.bipush 20, 2) := by decide +kernel
theorem dX7_then_74 : decode cX7_then 74 = .ok (.iaload, 1) := by decide +kernel
theorem dX7_then_75 : decode cX7_then 75 = .ok (.ireturn, 1) := by decide +kernel
theorem dX7_then_76 : decode cX7_then 76 = .ok (.aload_n 0, 1) := by decide +kernel
theorem dX7_then_77 : decode cX7_then 77 = .ok (.getfield 13, 3) := by decide +kernel
theorem dX7_then_80 : decode cX7_then 80 = .ok (.bipush 18, 2) := by decide +kernel
theorem dX7_then_82 : decode cX7_then 82 = .ok (.iaload, 1) := by decide +kernel
theorem dX7_then_83 : decode cX7_then 83 = .ok (.ireturn, 1) := by decide +kernel
theorem dX7_then_84 : decode cX7_then 84 = .ok (.aload_n 0, 1) := by decide +kernel
theorem dX7_then_85 : decode cX7_then 85 = .ok (.getfield 67, 3) := by decide +kernel
theorem dX7_then_88 : decode cX7_then 88 = .ok (.ireturn, 1) := by decide +kernel
theorem dX7_then_89 : decode cX7_then 89 = .ok (.aload_n 0, 1) := by decide +kernel
theorem dX7_then_90 : decode cX7_then 90 = .ok (.getfield 13, 3) := by decide +kernel
theorem dX7_then_93 : decode cX7_then 93 = .ok (.bipush 21, 2) := by decide +kernel
theorem dX7_then_95 : decode cX7_then 95 = .ok (.iaload, 1) := by decide +kernel
theorem dX7_then_96 : decode cX7_then 96 = .ok (.ireturn, 1) := by decide +kernel
theorem dX7_then_97 : decode cX7_then 97 = .ok (.iload_n 1, 1) := by decide +kernel
theorem dX7_then_98 : decode cX7_then 98 = .ok (.iconst 5, 1) := by decide +kernel
theorem dX7_then_99 : decode cX7_then 99 = .ok (.if_icmp .ne 10, 3) := by decide +kernel
theorem dX7_then_102 : decode cX7_then 102 = .ok (.aload_n 0, 1) := by decide +kernel
theorem dX7_then_103 : decode cX7_then 103 = .ok (.getfield 70, 3) := by decide +kernel
theorem dX7_then_106 : decode cX7_then 106 = .ok (.goto 7, 3) := by decide +kernel
theorem dX7_then_109 : decode cX7_then 109 = .ok (.aload_n 0, 1) := by decide +kernel
theorem dX7_then_110 : decode cX7_then 110 = .ok (.getfield 73, 3) := by decide +kernel
theorem dX7_then_113 : decode cX7_then 113 = .ok (.ireturn, 1) := by decide +kernel
theorem dX7_chainOf_0 : decode cX7_chainOf 0 = .ok (.iconst 1, 1) := by decide +kernel
theorem dX7_chainOf_1 : decode cX7_chainOf 1 = .ok (.iload_n 1, 1) := by decide +kernel
theorem dX7_chainOf_2 : decode cX7_chainOf 2 = .ok (.ishl, 1) := by decide +kernel
theorem dX7_chainOf_3 : decode cX7_chainOf 3 = .ok (.istore_n 3, 1) := by decide +kernel
theorem dX7_chainOf_4 : decode cX7_chainOf 4 = .ok (.iconst 0, 1) := by decide +kernel
theorem dX7_chainOf_5 : decode cX7_chainOf 5 = .ok (.istore 4, 2) := by decide +kernel
theorem dX7_chainOf_7 : decode cX7_chainOf 7 = .ok (.iload_n 3, 1) := by decide +kernel
theorem dX7_chainOf_8 : decode cX7_chainOf 8 = .ok (.iload 4, 2) := by decide +kernel
theorem dX7_chainOf_10 : decode cX7_chainOf 10 = .ok (.if_icmp .eq 140, 3) := by decide +kernel
theorem dX7_chainOf_13 : decode cX7_chainOf 13 = .ok (.iload_n 3, 1) := by decide +kernel
theorem dX7_chainOf_14 : decode cX7_chainOf 14 = .ok (.istore 4, 2) := by decide +kernel
theorem dX7_chainOf_16 : decode cX7_chainOf 16 = .ok (.iconst 0, 1) := by decide +kernel
theorem dX7_chainOf_17 : decode cX7_chainOf 17 = .ok (.istore 5, 2) := by decide +kernel
theorem dX7_chainOf_19 : decode cX7_chainOf 19 = .ok (.iload 5, 2) := by decide +kernel
theorem dX7_chainOf_21 : decode cX7_chainOf 21 = .ok (.bipush 6, 2) := by decide +kernel
theorem dX7_chainOf_23 : decode cX7_chainOf 23 = .ok (.if_icmp .ge 124, 3) := by decide +kernel
theorem dX7_chainOf_26 : decode cX7_chainOf 26 = .ok (.aload_n 0, 1) := by decide +kernel
theorem dX7_chainOf_27 : decode cX7_chainOf 27 = .ok (.getfield 7, 3) := by decide +kernel
theorem dX7_chainOf_30 : decode cX7_chainOf 30 = .ok (.iload 5, 2) := by decide +kernel
theorem dX7_chainOf_32 : decode cX7_chainOf 32 = .ok (.iaload, 1) := by decide +kernel
theorem dX7_chainOf_33 : decode cX7_chainOf 33 = .ok (.ifCond .le 30, 3) := by decide +kernel
theorem dX7_chainOf_36 : decode cX7_chainOf 36 = .ok (.aload_n 0, 1) := by decide +kernel
theorem dX7_chainOf_37 : decode cX7_chainOf 37 = .ok (.getfield 7, 3) := by decide +kernel
theorem dX7_chainOf_40 : decode cX7_chainOf 40 = .ok (.bipush 6, 2) := by decide +kernel
theorem dX7_chainOf_42 : decode cX7_chainOf 42 = .ok (.iload 5, 2) := by decide +kernel
theorem dX7_chainOf_44 : decode cX7_chainOf 44 = .ok (.iadd, 1) := by decide +kernel
theorem dX7_chainOf_45 : decode cX7_chainOf 45 = .ok (.iaload, 1) := by decide +kernel
theorem dX7_chainOf_46 : decode cX7_chainOf 46 = .ok (.iconst 3, 1) := by decide +kernel
theorem dX7_chainOf_47 : decode cX7_chainOf 47 = .ok (.if_icmp .ge 16, 3) := by decide +kernel
theorem dX7_chainOf_50 : decode cX7_chainOf 50 = .ok (.iload_n 2, 1) := by decide +kernel
theorem dX7_chainOf_51 : decode cX7_chainOf 51 = .ok (.iload 5, 2) := by decide +kernel
theorem dX7_chainOf_53 : decode cX7_chainOf 53 = .ok (.invokestatic 80, 3) := by decide +kernel
theorem dX7_chainOf_56 : decode cX7_chainOf 56 = .ok (.ifCond .ne 7, 3) := by decide +kernel
theorem dX7_chainOf_59 : decode cX7_chainOf 59 = .ok (.iconst 1, 1) := by decide +kernel
theorem dX7_chainOf_60 : decode cX7_chainOf 60 = .ok (.goto 4, 3) := by decide +kernel
theorem dX7_chainOf_63 : decode cX7_chainOf 63 = .ok (.iconst 0, 1) := by decide +kernel
theorem dX7_chainOf_64 : decode cX7_chainOf 64 = .ok (.istore 6, 2) := by decide +kernel
theorem dX7_chainOf_66 : decode cX7_chainOf 66 = .ok (.iconst 0, 1) := by decide +kernel
theorem dX7_chainOf_67 : decode cX7_chainOf 67 = .ok (.istore 7, 2) := by decide +kernel
theorem dX7_chainOf_69 : decode cX7_chainOf 69 = .ok (.iload 7, 2) := by decide +kernel
theorem dX7_chainOf_71 : decode cX7_chainOf 71 = .ok (.bipush 6, 2) := by decide +kernel
theorem dX7_chainOf_73 : decode cX7_chainOf 73 = .ok (.if_icmp .ge 68, 3) := by decide +kernel
theorem dX7_chainOf_76 : decode cX7_chainOf 76 = .ok (.iload 6, 2) := by decide +kernel
theorem dX7_chainOf_78 : decode cX7_chainOf 78 = .ok (.ifCond .eq 63, 3) := by decide +kernel
theorem dX7_chainOf_81 : decode cX7_chainOf 81 = .ok (.iload_n 3, 1) := by decide +kernel
theorem dX7_chainOf_82 : decode cX7_chainOf 82 = .ok (.iload 4, 2) := by decide +kernel
theorem dX7_chainOf_84 : decode cX7_chainOf 84 = .ok (.iload 7, 2) := by decide +kernel
theorem dX7_chainOf_86 : decode cX7_chainOf 86 = .ok (.invokestatic 80, 3) := by decide +kernel
theorem dX7_chainOf_89 : decode cX7_chainOf 89 = .ok (.ifCond .eq 43, 3) := by decide +kernel
theorem dX7_chainOf_92 : decode cX7_chainOf 92 = .ok (.iload 7, 2) := by decide +kernel
theorem dX7_chainOf_94 : decode cX7_chainOf 94 = .ok (.iload 5, 2) := by decide +kernel
theorem dX7_chainOf_96 : decode cX7_chainOf 96 = .ok (.if_icmp .eq 36, 3) := by decide +kernel
theorem dX7_chainOf_99 : decode cX7_chainOf 99 = .ok (.aload_n 0, 1) := by decide +kernel
theorem dX7_chainOf_100 : decode cX7_chainOf 100 = .ok (.getfield 7, 3) := by decide +kernel
theorem dX7_chainOf_103 : decode cX7_chainOf 103 = .ok (.bipush 12, 2) := by decide +kernel
theorem dX7_chainOf_105 : decode cX7_chainOf 105 = .ok (.iload 5, 2) := by decide +kernel
theorem dX7_chainOf_107 : decode cX7_chainOf 107 = .ok (.iadd, 1) := by decide +kernel
theorem dX7_chainOf_108 : decode cX7_chainOf 108 = .ok (.iaload, 1) := by decide +kernel
theorem dX7_chainOf_109 : decode cX7_chainOf 109 = .ok (.aload_n 0, 1) := by decide +kernel
theorem dX7_chainOf_110 : decode cX7_chainOf 110 = .ok (.getfield 7, 3) := by decide +kernel
theorem dX7_chainOf_113 : decode cX7_chainOf 113 = .ok (.bipush 12, 2) := by decide +kernel
theorem dX7_chainOf_115 : decode cX7_chainOf 115 = .ok (.iload 7, 2) := by decide +kernel
theorem dX7_chainOf_117 : decode cX7_chainOf 117 = .ok (.iadd, 1) := by decide +kernel
theorem dX7_chainOf_118 : decode cX7_chainOf 118 = .ok (.iaload, 1) := by decide +kernel
theorem dX7_chainOf_119 : decode cX7_chainOf 119 = .ok (.invokestatic 84, 3) := by decide +kernel
theorem dX7_chainOf_122 : decode cX7_chainOf 122 = .ok (.ifCond .eq 10, 3) := by decide +kernel
theorem dX7_chainOf_125 : decode cX7_chainOf 125 = .ok (.iconst 1, 1) := by decide +kernel
theorem dX7_chainOf_126 : decode cX7_chainOf 126 = .ok (.iload 5, 2) := by decide +kernel
theorem dX7_chainOf_128 : decode cX7_chainOf 128 = .ok (.ishl, 1) := by decide +kernel
theorem dX7_chainOf_129 : decode cX7_chainOf 129 = .ok (.goto 4, 3) := by decide +kernel
theorem dX7_chainOf_132 : decode cX7_chainOf 132 = .ok (.iconst 0, 1) := by decide +kernel
theorem dX7_chainOf_133 : decode cX7_chainOf 133 = .ok (.ior, 1) := by decide +kernel
theorem dX7_chainOf_134 : decode cX7_chainOf 134 = .ok (.istore_n 3, 1) := by decide +kernel
theorem dX7_chainOf_135 : decode cX7_chainOf 135 = .ok (.iinc 7 1, 3) := by decide +kernel
theorem dX7_chainOf_138 : decode cX7_chainOf 138 = .ok (.goto (-69), 3) := by decide +kernel
theorem dX7_chainOf_141 : decode cX7_chainOf 141 = .ok (.iinc 5 1, 3) := by decide +kernel
theorem dX7_chainOf_144 : decode cX7_chainOf 144 = .ok (.goto (-125), 3) := by decide +kernel
theorem dX7_chainOf_147 : decode cX7_chainOf 147 = .ok (.goto (-140), 3) := by decide +kernel
theorem dX7_chainOf_150 : decode cX7_chainOf 150 = .ok (.iload_n 3, 1) := by decide +kernel
theorem dX7_chainOf_151 : decode cX7_chainOf 151 = .ok (.ireturn, 1) := by decide +kernel
theorem dX7_chain_0 : decode cX7_chain 0 = .ok (.iload_n 1, 1) := by decide +kernel
theorem dX7_chain_1 : decode cX7_chain 1 = .ok (.invokestatic 52, 3) := by decide +kernel
theorem dX7_chain_4 : decode cX7_chain 4 = .ok (.ifCond .ne 5, 3) := by decide +kernel
theorem dX7_chain_7 : decode cX7_chain 7 = .ok (.iconst (-1), 1) := by decide +kernel
theorem dX7_chain_8 : decode cX7_chain 8 = .ok (.ireturn, 1) := by decide +kernel
theorem dX7_chain_9 : decode cX7_chain 9 = .ok (.aload_n 0, 1) := by decide +kernel
theorem dX7_chain_10 : decode cX7_chain 10 = .ok (.getfield 7, 3) := by decide +kernel
theorem dX7_chain_13 : decode cX7_chain 13 = .ok (.iload_n 1, 1) := by decide +kernel
theorem dX7_chain_14 : decode cX7_chain 14 = .ok (.iaload, 1) := by decide +kernel
theorem dX7_chain_15 : decode cX7_chain 15 = .ok (.ifCond .le 12, 3) := by decide +kernel
theorem dX7_chain_18 : decode cX7_chain 18 = .ok (.aload_n 0, 1) := by decide +kernel
theorem dX7_chain_19 : decode cX7_chain 19 = .ok (.iload_n 1, 1) := by decide +kernel
theorem dX7_chain_20 : decode cX7_chain 20 = .ok (.iconst 0, 1) := by decide +kernel
theorem dX7_chain_21 : decode cX7_chain 21 = .ok (.invokevirtual 123, 3) := by decide +kernel
theorem dX7_chain_24 : decode cX7_chain 24 = .ok (.goto 5, 3) := by decide +kernel
theorem dX7_chain_27 : decode cX7_chain 27 = .ok (.bipush (-3), 2) := by decide +kernel
theorem dX7_chain_29 : decode cX7_chain 29 = .ok (.ireturn, 1) := by decide +kernel
theorem dX7_cover_0 : decode cX7_cover 0 = .ok (.iload_n 1, 1) := by decide +kernel
theorem dX7_cover_1 : decode cX7_cover 1 = .ok (.invokestatic 52, 3) := by decide +kernel
theorem dX7_cover_4 : decode cX7_cover 4 = .ok (.ifCond .eq 15, 3) := by decide +kernel
theorem dX7_cover_7 : decode cX7_cover 7 = .ok (.iload_n 2, 1) := by decide +kernel
theorem dX7_cover_8 : decode cX7_cover 8 = .ok (.invokestatic 52, 3) := by decide +kernel
theorem dX7_cover_11 : decode cX7_cover 11 = .ok (.ifCond .eq 8, 3) := by decide +kernel
theorem dX7_cover_14 : decode cX7_cover 14 = .ok (.iload_n 1, 1) := by decide +kernel
theorem dX7_cover_15 : decode cX7_cover 15 = .ok (.iload_n 2, 1) := by decide +kernel
theorem dX7_cover_16 : decode cX7_cover 16 = .ok (.if_icmp .ne 5, 3) := by decide +kernel
theorem dX7_cover_19 : decode cX7_cover 19 = .ok (.iconst (-1), 1) := by decide +kernel
theorem dX7_cover_20 : decode cX7_cover 20 = .ok (.ireturn, 1) := by decide +kernel
theorem dX7_cover_21 : decode cX7_cover 21 = .ok (.iload_n 3, 1) := by decide +kernel
theorem dX7_cover_22 : decode cX7_cover 22 = .ok (.iconst 0, 1) := by decide +kernel
theorem dX7_cover_23 : decode cX7_cover 23 = .ok (.iconst 1, 1) := by decide +kernel
theorem dX7_cover_24 : decode cX7_cover 24 = .ok (.invokestatic 48, 3) := by decide +kernel
theorem dX7_cover_27 : decode cX7_cover 27 = .ok (.ifCond .ne 6, 3) := by decide +kernel
theorem dX7_cover_30 : decode cX7_cover 30 = .ok (.bipush (-2), 2) := by decide +kernel
theorem dX7_cover_32 : decode cX7_cover 32 = .ok (.ireturn, 1) := by decide +kernel
theorem dX7_cover_33 : decode cX7_cover 33 = .ok (.aload_n 0, 1) := by decide +kernel
theorem dX7_cover_34 : decode cX7_cover 34 = .ok (.getfield 7, 3) := by decide +kernel
theorem dX7_cover_37 : decode cX7_cover 37 = .ok (.iload_n 1, 1) := by decide +kernel
theorem dX7_cover_38 : decode cX7_cover 38 = .ok (.iaload, 1) := by decide +kernel
theorem dX7_cover_39 : decode cX7_cover 39 = .ok (.ifCond .eq 12, 3) := by decide +kernel
theorem dX7_cover_42 : decode cX7_cover 42 = .ok (.aload_n 0, 1) := by decide +kernel
theorem dX7_cover_43 : decode cX7_cover 43 = .ok (.getfield 7, 3) := by decide +kernel
theorem dX7_cover_46 : decode cX7_cover 46 = .ok (.iload_n 2, 1) := by decide +kernel
theorem dX7_cover_47 : decode cX7_cover 47 = .ok (.iaload, 1) := by decide +kernel
theorem dX7_cover_48 : decode cX7_cover 48 = .ok (.ifCond .ne 6, 3) := by decide +kernel
theorem dX7_cover_51 : decode cX7_cover 51 = .ok (.bipush (-3), 2) := by decide +kernel
theorem dX7_cover_53 : decode cX7_cover 53 = .ok (.ireturn, 1) := by decide +kernel
theorem dX7_cover_54 : decode cX7_cover 54 = .ok (.bipush (-6), 2) := by decide +kernel
theorem dX7_cover_56 : decode cX7_cover 56 = .ok (.istore 4, 2) := by decide +kernel
theorem dX7_cover_58 : decode cX7_cover 58 = .ok (.iconst 0, 1) := by decide +kernel
theorem dX7_cover_59 : decode cX7_cover 59 = .ok (.istore 5, 2) := by decide +kernel
theorem dX7_cover_61 : decode cX7_cover 61 = .ok (.iload 5, 2) := by decide +kernel
theorem dX7_cover_63 : decode cX7_cover 63 = .ok (.bipush 64, 2) := by decide +kernel
theorem dX7_cover_65 : decode cX7_cover 65 = .ok (.if_icmp .ge 80, 3) := by decide +kernel
theorem dX7_cover_68 : decode cX7_cover 68 = .ok (.iload 5, 2) := by decide +kernel
theorem dX7_cover_70 : decode cX7_cover 70 = .ok (.iload_n 1, 1) := by decide +kernel
theorem dX7_cover_71 : decode cX7_cover 71 = .ok (.invokestatic 80, 3) := by decide +kernel
theorem dX7_cover_74 : decode cX7_cover 74 = .ok (.ifCond .ne 34, 3) := by decide +kernel
theorem dX7_cover_77 : decode cX7_cover 77 = .ok (.iload 5, 2) := by decide +kernel
theorem dX7_cover_79 : decode cX7_cover 79 = .ok (.iload_n 2, 1) := by decide +kernel
theorem dX7_cover_80 : decode cX7_cover 80 = .ok (.invokestatic 80, 3) := by decide +kernel
theorem dX7_cover_83 : decode cX7_cover 83 = .ok (.ifCond .ne 25, 3) := by decide +kernel
theorem dX7_cover_86 : decode cX7_cover 86 = .ok (.iload 4, 2) := by decide +kernel
theorem dX7_cover_88 : decode cX7_cover 88 = .ok (.ifCond .lt 16, 3) := by decide +kernel
theorem dX7_cover_91 : decode cX7_cover 91 = .ok (.iload 5, 2) := by decide +kernel
theorem dX7_cover_93 : decode cX7_cover 93 = .ok (.invokestatic 56, 3) := by decide +kernel
theorem dX7_cover_96 : decode cX7_cover 96 = .ok (.iload 4, 2) := by decide +kernel
theorem dX7_cover_98 : decode cX7_cover 98 = .ok (.invokestatic 56, 3) := by decide +kernel
theorem dX7_cover_101 : decode cX7_cover 101 = .ok (.if_icmp .ge 7, 3) := by decide +kernel
theorem dX7_cover_104 : decode cX7_cover 104 = .ok (.iconst 1, 1) := by decide +kernel
theorem dX7_cover_105 : decode cX7_cover 105 = .ok (.goto 4, 3) := by decide +kernel
theorem dX7_cover_108 : decode cX7_cover 108 = .ok (.iconst 0, 1) := by decide +kernel
theorem dX7_cover_109 : decode cX7_cover 109 = .ok (.istore 6, 2) := by decide +kernel
theorem dX7_cover_111 : decode cX7_cover 111 = .ok (.iload 6, 2) := by decide +kernel
theorem dX7_cover_113 : decode cX7_cover 113 = .ok (.ifCond .eq 22, 3) := by decide +kernel
theorem dX7_cover_116 : decode cX7_cover 116 = .ok (.aload_n 0, 1) := by decide +kernel
theorem dX7_cover_117 : decode cX7_cover 117 = .ok (.iload_n 1, 1) := by decide +kernel
theorem dX7_cover_118 : decode cX7_cover 118 = .ok (.iload 5, 2) := by decide +kernel
theorem dX7_cover_120 : decode cX7_cover 120 = .ok (.invokevirtual 123, 3) := by decide +kernel
theorem dX7_cover_123 : decode cX7_cover 123 = .ok (.iload_n 2, 1) := by decide +kernel
theorem dX7_cover_124 : decode cX7_cover 124 = .ok (.invokestatic 80, 3) := by decide +kernel
theorem dX7_cover_127 : decode cX7_cover 127 = .ok (.ifCond .ne 8, 3) := by decide +kernel
theorem dX7_cover_130 : decode cX7_cover 130 = .ok (.iload 5, 2) := by decide +kernel
theorem dX7_cover_132 : decode cX7_cover 132 = .ok (.goto 5, 3) := by decide +kernel
theorem dX7_cover_135 : decode cX7_cover 135 = .ok (.iload 4, 2) := by decide +kernel
theorem dX7_cover_137 : decode cX7_cover 137 = .ok (.istore 4, 2) := by decide +kernel
theorem dX7_cover_139 : decode cX7_cover 139 = .ok (.iinc 5 1, 3) := by decide +kernel
theorem dX7_cover_142 : decode cX7_cover 142 = .ok (.goto (-81), 3) := by decide +kernel
theorem dX7_cover_145 : decode cX7_cover 145 = .ok (.iload 4, 2) := by decide +kernel
theorem dX7_cover_147 : decode cX7_cover 147 = .ok (.ifCond .lt 8, 3) := by decide +kernel
theorem dX7_cover_150 : decode cX7_cover 150 = .ok (.iload_n 3, 1) := by decide +kernel
theorem dX7_cover_151 : decode cX7_cover 151 = .ok (.iconst 1, 1) := by decide +kernel
theorem dX7_cover_152 : decode cX7_cover 152 = .ok (.if_icmp .ne 8, 3) := by decide +kernel
theorem dX7_cover_155 : decode cX7_cover 155 = .ok (.iload 4, 2) := by decide +kernel
theorem dX7_cover_157 : decode cX7_cover 157 = .ok (.goto 8, 3) := by decide +kernel
theorem dX7_cover_160 : decode cX7_cover 160 = .ok (.iload 4, 2) := by decide +kernel
theorem dX7_cover_162 : decode cX7_cover 162 = .ok (.invokestatic 56, 3) := by decide +kernel
theorem dX7_cover_165 : decode cX7_cover 165 = .ok (.ireturn, 1) := by decide +kernel
theorem dX7_canBeDrawn_0 : decode cX7_canBeDrawn 0 = .ok (.iconst 0, 1) := by decide +kernel
theorem dX7_canBeDrawn_1 : decode cX7_canBeDrawn 1 = .ok (.istore_n 3, 1) := by decide +kernel
theorem dX7_canBeDrawn_2 : decode cX7_canBeDrawn 2 = .ok (.iload_n 3, 1) := by decide +kernel
theorem dX7_canBeDrawn_3 : decode cX7_canBeDrawn 3 = .ok (.iload_n 2, 1) := by decide +kernel
theorem dX7_canBeDrawn_4 : decode cX7_canBeDrawn 4 = .ok (.if_icmp .ge 89, 3) := by decide +kernel
theorem dX7_canBeDrawn_7 : decode cX7_canBeDrawn 7 = .ok (.iconst 0, 1) := by decide +kernel
theorem dX7_canBeDrawn_8 : decode cX7_canBeDrawn 8 = .ok (.istore 4, 2) := by decide +kernel
theorem dX7_canBeDrawn_10 : decode cX7_canBeDrawn 10 = .ok (.iconst 0, 1) := by decide +kernel
theorem dX7_canBeDrawn_11 : decode cX7_canBeDrawn 11 = .ok (.istore 5, 2) := by decide +kernel
theorem dX7_canBeDrawn_13 : decode cX7_canBeDrawn 13 = .ok (.iload 5, 2) := by decide +kernel
theorem dX7_canBeDrawn_15 : decode cX7_canBeDrawn 15 = .ok (.iload_n 2, 1) := by decide +kernel
theorem dX7_canBeDrawn_16 : decode cX7_canBeDrawn 16 = .ok (.if_icmp .ge 50, 3) := by decide +kernel
theorem dX7_canBeDrawn_19 : decode cX7_canBeDrawn 19 = .ok (.iload 4, 2) := by decide +kernel
theorem dX7_canBeDrawn_21 : decode cX7_canBeDrawn 21 = .ok (.iload_n 1, 1) := by decide +kernel
theorem dX7_canBeDrawn_22 : decode cX7_canBeDrawn 22 = .ok (.iload 5, 2) := by decide +kernel
theorem dX7_canBeDrawn_24 : decode cX7_canBeDrawn 24 = .ok (.invokestatic 80, 3) := by decide +kernel
theorem dX7_canBeDrawn_27 : decode cX7_canBeDrawn 27 = .ok (.ifCond .eq 29, 3) := by decide +kernel
theorem dX7_canBeDrawn_30 : decode cX7_canBeDrawn 30 = .ok (.aload_n 0, 1) := by decide +kernel
theorem dX7_canBeDrawn_31 : decode cX7_canBeDrawn 31 = .ok (.getfield 29, 3) := by decide +kernel
theorem dX7_canBeDrawn_34 : decode cX7_canBeDrawn 34 = .ok (.iload 5, 2) := by decide +kernel
theorem dX7_canBeDrawn_36 : decode cX7_canBeDrawn 36 = .ok (.iaload, 1) := by decide +kernel
theorem dX7_canBeDrawn_37 : decode cX7_canBeDrawn 37 = .ok (.aload_n 0, 1) := by decide +kernel
theorem dX7_canBeDrawn_38 : decode cX7_canBeDrawn 38 = .ok (.getfield 29, 3) := by decide +kernel
theorem dX7_canBeDrawn_41 : decode cX7_canBeDrawn 41 = .ok (.iload_n 3, 1) := by decide +kernel
theorem dX7_canBeDrawn_42 : decode cX7_canBeDrawn 42 = .ok (.iaload, 1) := by decide +kernel
theorem dX7_canBeDrawn_43 : decode cX7_canBeDrawn 43 = .ok (.if_icmp .gt 13, 3) := by decide +kernel
theorem dX7_canBeDrawn_46 : decode cX7_canBeDrawn 46 = .ok (.aload_n 0, 1) := by decide +kernel
theorem dX7_canBeDrawn_47 : decode cX7_canBeDrawn 47 = .ok (.getfield 26, 3) := by decide +kernel
theorem dX7_canBeDrawn_50 : decode cX7_canBeDrawn 50 = .ok (.iload 5, 2) := by decide +kernel
theorem dX7_canBeDrawn_52 : decode cX7_canBeDrawn 52 = .ok (.iaload, 1) := by decide +kernel
theorem dX7_canBeDrawn_53 : decode cX7_canBeDrawn 53 = .ok (.goto 4, 3) := by decide +kernel
theorem dX7_canBeDrawn_56 : decode cX7_canBeDrawn 56 = .ok (.iconst 0, 1) := by decide +kernel
theorem dX7_canBeDrawn_57 : decode cX7_canBeDrawn 57 = .ok (.iadd, 1) := by decide +kernel
theorem dX7_canBeDrawn_58 : decode cX7_canBeDrawn 58 = .ok (.istore 4, 2) := by decide +kernel
theorem dX7_canBeDrawn_60 : decode cX7_canBeDrawn 60 = .ok (.iinc 5 1, 3) := by decide +kernel
theorem dX7_canBeDrawn_63 : decode cX7_canBeDrawn 63 = .ok (.goto (-50), 3) := by decide +kernel
theorem dX7_canBeDrawn_66 : decode cX7_canBeDrawn 66 = .ok (.iload_n 1, 1) := by decide +kernel
theorem dX7_canBeDrawn_67 : decode cX7_canBeDrawn 67 = .ok (.iload_n 3, 1) := by decide +kernel
theorem dX7_canBeDrawn_68 : decode cX7_canBeDrawn 68 = .ok (.invokestatic 80, 3) := by decide +kernel
theorem dX7_canBeDrawn_71 : decode cX7_canBeDrawn 71 = .ok (.ifCond .eq 16, 3) := by decide +kernel
theorem dX7_canBeDrawn_74 : decode cX7_canBeDrawn 74 = .ok (.iload 4, 2) := by decide +kernel
theorem dX7_canBeDrawn_76 : decode cX7_canBeDrawn 76 = .ok (.aload_n 0, 1) := by decide +kernel
theorem dX7_canBeDrawn_77 : decode cX7_canBeDrawn 77 = .ok (.getfield 29, 3) := by decide +kernel
theorem dX7_canBeDrawn_80 : decode cX7_canBeDrawn 80 = .ok (.iload_n 3, 1) := by decide +kernel
theorem dX7_canBeDrawn_81 : decode cX7_canBeDrawn 81 = .ok (.iaload, 1) := by decide +kernel
theorem dX7_canBeDrawn_82 : decode cX7_canBeDrawn 82 = .ok (.if_icmp .le 5, 3) := by decide +kernel
theorem dX7_canBeDrawn_85 : decode cX7_canBeDrawn 85 = .ok (.iconst 0, 1) := by decide +kernel
theorem dX7_canBeDrawn_86 : decode cX7_canBeDrawn 86 = .ok (.ireturn, 1) := by decide +kernel
theorem dX7_canBeDrawn_87 : decode cX7_canBeDrawn 87 = .ok (.iinc 3 1, 3) := by decide +kernel
theorem dX7_canBeDrawn_90 : decode cX7_canBeDrawn 90 = .ok (.goto (-88), 3) := by decide +kernel
theorem dX7_canBeDrawn_93 : decode cX7_canBeDrawn 93 = .ok (.iconst 1, 1) := by decide +kernel
theorem dX7_canBeDrawn_94 : decode cX7_canBeDrawn 94 = .ok (.ireturn, 1) := by decide +kernel
theorem dX7_due_0 : decode cX7_due 0 = .ok (.iload 4, 2) := by decide +kernel
theorem dX7_due_2 : decode cX7_due 2 = .ok (.iconst 1, 1) := by decide +kernel
theorem dX7_due_3 : decode cX7_due 3 = .ok (.bipush 8, 2) := by decide +kernel
theorem dX7_due_5 : decode cX7_due 5 = .ok (.invokestatic 48, 3) := by decide +kernel
theorem dX7_due_8 : decode cX7_due 8 = .ok (.ifCond .eq 27, 3) := by decide +kernel
theorem dX7_due_11 : decode cX7_due 11 = .ok (.iload_n 1, 1) := by decide +kernel
theorem dX7_due_12 : decode cX7_due 12 = .ok (.ifCond .le 23, 3) := by decide +kernel
theorem dX7_due_15 : decode cX7_due 15 = .ok (.lload_n 2, 1) := by decide +kernel
theorem dX7_due_16 : decode cX7_due 16 = .ok (.lconst 0, 1) := by decide +kernel
theorem dX7_due_17 : decode cX7_due 17 = .ok (.lcmp, 1) := by decide +kernel
theorem dX7_due_18 : decode cX7_due 18 = .ok (.ifCond .lt 17, 3) := by decide +kernel
theorem dX7_due_21 : decode cX7_due 21 = .ok (.iload 5, 2) := by decide +kernel
theorem dX7_due_23 : decode cX7_due 23 = .ok (.iconst 0, 1) := by decide +kernel
theorem dX7_due_24 : decode cX7_due 24 = .ok (.iconst 1, 1) := by decide +kernel
theorem dX7_due_25 : decode cX7_due 25 = .ok (.invokestatic 48, 3) := by decide +kernel
theorem dX7_due_28 : decode cX7_due 28 = .ok (.ifCond .eq 7, 3) := by decide +kernel
theorem dX7_due_31 : decode cX7_due 31 = .ok (.iconst 1, 1) := by decide +kernel
theorem dX7_due_32 : decode cX7_due 32 = .ok (.goto 4, 3) := by decide +kernel
theorem dX7_due_35 : decode cX7_due 35 = .ok (.iconst 0, 1) := by decide +kernel
theorem dX7_due_36 : decode cX7_due 36 = .ok (.istore 6, 2) := by decide +kernel
theorem dX7_due_38 : decode cX7_due 38 = .ok (.iload_n 1, 1) := by decide +kernel
theorem dX7_due_39 : decode cX7_due 39 = .ok (.istore 7, 2) := by decide +kernel
theorem dX7_due_41 : decode cX7_due 41 = .ok (.lload_n 2, 1) := by decide +kernel
theorem dX7_due_42 : decode cX7_due 42 = .ok (.lstore 8, 2) := by decide +kernel
theorem dX7_due_44 : decode cX7_due 44 = .ok (.iload 4, 2) := by decide +kernel
theorem dX7_due_46 : decode cX7_due 46 = .ok (.iconst 1, 1) := by decide +kernel
theorem dX7_due_47 : decode cX7_due 47 = .ok (.isub, 1) := by decide +kernel
theorem dX7_due_48 : decode cX7_due 48 = .ok (.istore 10, 2) := by decide +kernel
theorem dX7_due_50 : decode cX7_due 50 = .ok (.iload 10, 2) := by decide +kernel
theorem dX7_due_52 : decode cX7_due 52 = .ok (.ifCond .lt 72, 3) := by decide +kernel
theorem dX7_due_55 : decode cX7_due 55 = .ok (.iload 6, 2) := by decide +kernel
theorem dX7_due_57 : decode cX7_due 57 = .ok (.ifCond .eq 67, 3) := by decide +kernel
theorem dX7_due_60 : decode cX7_due 60 = .ok (.aload_n 0, 1) := by decide +kernel
theorem dX7_due_61 : decode cX7_due 61 = .ok (.getfield 26, 3) := by decide +kernel
theorem dX7_due_64 : decode cX7_due 64 = .ok (.iload 10, 2) := by decide +kernel
theorem dX7_due_66 : decode cX7_due 66 = .ok (.iload 7, 2) := by decide +kernel
theorem dX7_due_68 : decode cX7_due 68 = .ok (.bipush 10, 2) := by decide +kernel
theorem dX7_due_70 : decode cX7_due 70 = .ok (.irem, 1) := by decide +kernel
theorem dX7_due_71 : decode cX7_due 71 = .ok (.iastore, 1) := by decide +kernel
theorem dX7_due_72 : decode cX7_due 72 = .ok (.aload_n 0, 1) := by decide +kernel
theorem dX7_due_73 : decode cX7_due 73 = .ok (.getfield 29, 3) := by decide +kernel
theorem dX7_due_76 : decode cX7_due 76 = .ok (.iload 10, 2) := by decide +kernel
theorem dX7_due_78 : decode cX7_due 78 = .ok (.lload 8, 2) := by decide +kernel
theorem dX7_due_80 : decode cX7_due 80 = .ok (.ldc2_w 126, 3) := by decide +kernel
theorem dX7_due_83 : decode cX7_due 83 = .ok (.lrem, 1) := by decide +kernel
theorem dX7_due_84 : decode cX7_due 84 = .ok (.l2i, 1) := by decide +kernel
theorem dX7_due_85 : decode cX7_due 85 = .ok (.iastore, 1) := by decide +kernel
theorem dX7_due_86 : decode cX7_due 86 = .ok (.aload_n 0, 1) := by decide +kernel
theorem dX7_due_87 : decode cX7_due 87 = .ok (.getfield 26, 3) := by decide +kernel
theorem dX7_due_90 : decode cX7_due 90 = .ok (.iload 10, 2) := by decide +kernel
theorem dX7_due_92 : decode cX7_due 92 = .ok (.iaload, 1) := by decide +kernel
theorem dX7_due_93 : decode cX7_due 93 = .ok (.ifCond .le 7, 3) := by decide +kernel
theorem dX7_due_96 : decode cX7_due 96 = .ok (.iconst 1, 1) := by decide +kernel
theorem dX7_due_97 : decode cX7_due 97 = .ok (.goto 4, 3) := by decide +kernel
theorem dX7_due_100 : decode cX7_due 100 = .ok (.iconst 0, 1) := by decide +kernel
theorem dX7_due_101 : decode cX7_due 101 = .ok (.istore 6, 2) := by decide +kernel
theorem dX7_due_103 : decode cX7_due 103 = .ok (.iload 7, 2) := by decide +kernel
theorem dX7_due_105 : decode cX7_due 105 = .ok (.bipush 10, 2) := by decide +kernel
theorem dX7_due_107 : decode cX7_due 107 = .ok (.idiv, 1) := by decide +kernel
theorem dX7_due_108 : decode cX7_due 108 = .ok (.istore 7, 2) := by decide +kernel
theorem dX7_due_110 : decode cX7_due 110 = .ok (.lload 8, 2) := by decide +kernel
theorem dX7_due_112 : decode cX7_due 112 = .ok (.ldc2_w 126, 3) := by decide +kernel
theorem dX7_due_115 : decode cX7_due 115 = .ok (.ldiv, 1) := by decide +kernel
theorem dX7_due_116 : decode cX7_due 116 = .ok (.lstore 8, 2) := by decide +kernel
theorem dX7_due_118 : decode cX7_due 118 = .ok (.iinc 10 (-1), 3) := by decide +kernel
theorem dX7_due_121 : decode cX7_due 121 = .ok (.goto (-71), 3) := by decide +kernel
theorem dX7_due_124 : decode cX7_due 124 = .ok (.iload 6, 2) := by decide +kernel
theorem dX7_due_126 : decode cX7_due 126 = .ok (.ifCond .eq 15, 3) := by decide +kernel
theorem dX7_due_129 : decode cX7_due 129 = .ok (.iload 7, 2) := by decide +kernel
theorem dX7_due_131 : decode cX7_due 131 = .ok (.ifCond .ne 10, 3) := by decide +kernel
theorem dX7_due_134 : decode cX7_due 134 = .ok (.lload 8, 2) := by decide +kernel
theorem dX7_due_136 : decode cX7_due 136 = .ok (.lconst 0, 1) := by decide +kernel
theorem dX7_due_137 : decode cX7_due 137 = .ok (.lcmp, 1) := by decide +kernel
theorem dX7_due_138 : decode cX7_due 138 = .ok (.ifCond .eq 6, 3) := by decide +kernel
theorem dX7_due_141 : decode cX7_due 141 = .ok (.bipush (-2), 2) := by decide +kernel
theorem dX7_due_143 : decode cX7_due 143 = .ok (.ireturn, 1) := by decide +kernel
theorem dX7_due_144 : decode cX7_due 144 = .ok (.iconst 0, 1) := by decide +kernel
theorem dX7_due_145 : decode cX7_due 145 = .ok (.istore 10, 2) := by decide +kernel
theorem dX7_due_147 : decode cX7_due 147 = .ok (.iconst 1, 1) := by decide +kernel
theorem dX7_due_148 : decode cX7_due 148 = .ok (.istore 11, 2) := by decide +kernel
theorem dX7_due_150 : decode cX7_due 150 = .ok (.iload 11, 2) := by decide +kernel
theorem dX7_due_152 : decode cX7_due 152 = .ok (.iconst 1, 1) := by decide +kernel
theorem dX7_due_153 : decode cX7_due 153 = .ok (.iload 4, 2) := by decide +kernel
theorem dX7_due_155 : decode cX7_due 155 = .ok (.ishl, 1) := by decide +kernel
theorem dX7_due_156 : decode cX7_due 156 = .ok (.if_icmp .ge 42, 3) := by decide +kernel
theorem dX7_due_159 : decode cX7_due 159 = .ok (.iload 11, 2) := by decide +kernel
theorem dX7_due_161 : decode cX7_due 161 = .ok (.invokestatic 56, 3) := by decide +kernel
theorem dX7_due_164 : decode cX7_due 164 = .ok (.iload 10, 2) := by decide +kernel
theorem dX7_due_166 : decode cX7_due 166 = .ok (.invokestatic 56, 3) := by decide +kernel
theorem dX7_due_169 : decode cX7_due 169 = .ok (.if_icmp .le 19, 3) := by decide +kernel
theorem dX7_due_172 : decode cX7_due 172 = .ok (.aload_n 0, 1) := by decide +kernel
theorem dX7_due_173 : decode cX7_due 173 = .ok (.iload 11, 2) := by decide +kernel
theorem dX7_due_175 : decode cX7_due 175 = .ok (.iload 4, 2) := by decide +kernel
theorem dX7_due_177 : decode cX7_due 177 = .ok (.invokevirtual 128, 3) := by decide +kernel
theorem dX7_due_180 : decode cX7_due 180 = .ok (.ifCond .eq 8, 3) := by decide +kernel
theorem dX7_due_183 : decode cX7_due 183 = .ok (.iload 11, 2) := by decide +kernel
theorem dX7_due_185 : decode cX7_due 185 = .ok (.goto 5, 3) := by decide +kernel
theorem dX7_due_188 : decode cX7_due 188 = .ok (.iload 10, 2) := by decide +kernel
theorem dX7_due_190 : decode cX7_due 190 = .ok (.istore 10, 2) := by decide +kernel
theorem dX7_due_192 : decode cX7_due 192 = .ok (.iinc 11 1, 3) := by decide +kernel
theorem dX7_due_195 : decode cX7_due 195 = .ok (.goto (-45), 3) := by decide +kernel
theorem dX7_due_198 : decode cX7_due 198 = .ok (.iload 5, 2) := by decide +kernel
theorem dX7_due_200 : decode cX7_due 200 = .ok (.ifCond .ne 11, 3) := by decide +kernel
theorem dX7_due_203 : decode cX7_due 203 = .ok (.iload 10, 2) := by decide +kernel
theorem dX7_due_205 : decode cX7_due 205 = .ok (.invokestatic 56, 3) := by decide +kernel
theorem dX7_due_208 : decode cX7_due 208 = .ok (.goto 5, 3) := by decide +kernel
theorem dX7_due_211 : decode cX7_due 211 = .ok (.iload 10, 2) := by decide +kernel
theorem dX7_due_213 : decode cX7_due 213 = .ok (.ireturn, 1) := by decide +kernel
theorem dX7_nods_0 : decode cX7_nods 0 = .ok (.iload_n 1, 1) := by decide +kernel
theorem dX7_nods_1 : decode cX7_nods 1 = .ok (.iconst 1, 1) := by decide +kernel
theorem dX7_nods_2 : decode cX7_nods 2 = .ok (.bipush 9, 2) := by decide +kernel
theorem dX7_nods_4 : decode cX7_nods 4 = .ok (.invokestatic 48, 3) := by decide +kernel
theorem dX7_nods_7 : decode cX7_nods 7 = .ok (.ifCond .eq 56, 3) := by decide +kernel
theorem dX7_nods_10 : decode cX7_nods 10 = .ok (.iload_n 2, 1) := by decide +kernel
theorem dX7_nods_11 : decode cX7_nods 11 = .ok (.iconst 1, 1) := by decide +kernel
theorem dX7_nods_12 : decode cX7_nods 12 = .ok (.bipush 9, 2) := by decide +kernel
theorem dX7_nods_14 : decode cX7_nods 14 = .ok (.invokestatic 48, 3) := by decide +kernel
theorem dX7_nods_17 : decode cX7_nods 17 = .ok (.ifCond .eq 46, 3) := by decide +kernel
theorem dX7_nods_20 : decode cX7_nods 20 = .ok (.iload_n 3, 1) := by decide +kernel
theorem dX7_nods_21 : decode cX7_nods 21 = .ok (.iconst 1, 1) := by decide +kernel
theorem dX7_nods_22 : decode cX7_nods 22 = .ok (.bipush 9, 2) := by decide +kernel
theorem dX7_nods_24 : decode cX7_nods 24 = .ok (.invokestatic 48, 3) := by decide +kernel
theorem dX7_nods_27 : decode cX7_nods 27 = .ok (.ifCond .eq 36, 3) := by decide +kernel
theorem dX7_nods_30 : decode cX7_nods 30 = .ok (.iload 4, 2) := by decide +kernel
theorem dX7_nods_32 : decode cX7_nods 32 = .ok (.iconst 1, 1) := by decide +kernel
theorem dX7_nods_33 : decode cX7_nods 33 = .ok (.bipush 9, 2) := by decide +kernel
theorem dX7_nods_35 : decode cX7_nods 35 = .ok (.invokestatic 48, 3) := by decide +kernel
theorem dX7_nods_38 : decode cX7_nods 38 = .ok (.ifCond .eq 25, 3) := by decide +kernel
theorem dX7_nods_41 : decode cX7_nods 41 = .ok (.iload 5, 2) := by decide +kernel
theorem dX7_nods_43 : decode cX7_nods 43 = .ok (.iconst 0, 1) := by decide +kernel
theorem dX7_nods_44 : decode cX7_nods 44 = .ok (.sipush 9999, 3) := by decide +kernel
theorem dX7_nods_47 : decode cX7_nods 47 = .ok (.invokestatic 48, 3) := by decide +kernel
theorem dX7_nods_50 : decode cX7_nods 50 = .ok (.ifCond .eq 13, 3) := by decide +kernel
theorem dX7_nods_53 : decode cX7_nods 53 = .ok (.iload 6, 2) := by decide +kernel
theorem dX7_nods_55 : decode cX7_nods 55 = .ok (.iconst 0, 1) := by decide +kernel
theorem dX7_nods_56 : decode cX7_nods 56 = .ok (.iconst 1, 1) := by decide +kernel
theorem dX7_nods_57 : decode cX7_nods 57 = .ok (.invokestatic 48, 3) := by decide +kernel
theorem dX7_nods_60 : decode cX7_nods 60 = .ok (.ifCond .ne 6, 3) := by decide +kernel
theorem dX7_nods_63 : decode cX7_nods 63 = .ok (.bipush (-2), 2) := by decide +kernel
theorem dX7_nods_65 : decode cX7_nods 65 = .ok (.ireturn, 1) := by decide +kernel
theorem dX7_nods_66 : decode cX7_nods 66 = .ok (.iconst 0, 1) := by decide +kernel
theorem dX7_nods_67 : decode cX7_nods 67 = .ok (.istore 7, 2) := by decide +kernel
theorem dX7_nods_69 : decode cX7_nods 69 = .ok (.bipush (-6), 2) := by decide +kernel
theorem dX7_nods_71 : decode cX7_nods 71 = .ok (.istore 8, 2) := by decide +kernel
theorem dX7_nods_73 : decode cX7_nods 73 = .ok (.iconst 1, 1) := by decide +kernel
theorem dX7_nods_74 : decode cX7_nods 74 = .ok (.istore 9, 2) := by decide +kernel
theorem dX7_nods_76 : decode cX7_nods 76 = .ok (.iload 9, 2) := by decide +kernel
theorem dX7_nods_78 : decode cX7_nods 78 = .ok (.iload 5, 2) := by decide +kernel
theorem dX7_nods_80 : decode cX7_nods 80 = .ok (.if_icmp .le 8, 3) := by decide +kernel
theorem dX7_nods_83 : decode cX7_nods 83 = .ok (.iload 8, 2) := by decide +kernel
theorem dX7_nods_85 : decode cX7_nods 85 = .ok (.ifCond .ge 82, 3) := by decide +kernel
theorem dX7_nods_88 : decode cX7_nods 88 = .ok (.iload 9, 2) := by decide +kernel
theorem dX7_nods_90 : decode cX7_nods 90 = .ok (.iconst 1, 1) := by decide +kernel
theorem dX7_nods_91 : decode cX7_nods 91 = .ok (.isub, 1) := by decide +kernel
theorem dX7_nods_92 : decode cX7_nods 92 = .ok (.iload_n 1, 1) := by decide +kernel
theorem dX7_nods_93 : decode cX7_nods 93 = .ok (.iload_n 2, 1) := by decide +kernel
theorem dX7_nods_94 : decode cX7_nods 94 = .ok (.iadd, 1) := by decide +kernel
theorem dX7_nods_95 : decode cX7_nods 95 = .ok (.irem, 1) := by decide +kernel
theorem dX7_nods_96 : decode cX7_nods 96 = .ok (.iload_n 1, 1) := by decide +kernel
theorem dX7_nods_97 : decode cX7_nods 97 = .ok (.if_icmp .lt 20, 3) := by decide +kernel
theorem dX7_nods_100 : decode cX7_nods 100 = .ok (.iload 9, 2) := by decide +kernel
theorem dX7_nods_102 : decode cX7_nods 102 = .ok (.iconst 1, 1) := by decide +kernel
theorem dX7_nods_103 : decode cX7_nods 103 = .ok (.isub, 1) := by decide +kernel
theorem dX7_nods_104 : decode cX7_nods 104 = .ok (.iload_n 3, 1) := by decide +kernel
theorem dX7_nods_105 : decode cX7_nods 105 = .ok (.iload 4, 2) := by decide +kernel
theorem dX7_nods_107 : decode cX7_nods 107 = .ok (.iadd, 1) := by decide +kernel
theorem dX7_nods_108 : decode cX7_nods 108 = .ok (.irem, 1) := by decide +kernel
theorem dX7_nods_109 : decode cX7_nods 109 = .ok (.iload_n 3, 1) := by decide +kernel
theorem dX7_nods_110 : decode cX7_nods 110 = .ok (.if_icmp .lt 7, 3) := by decide +kernel
theorem dX7_nods_113 : decode cX7_nods 113 = .ok (.iconst 1, 1) := by decide +kernel
theorem dX7_nods_114 : decode cX7_nods 114 = .ok (.goto 4, 3) := by decide +kernel
theorem dX7_nods_117 : decode cX7_nods 117 = .ok (.iconst 0, 1) := by decide +kernel
theorem dX7_nods_118 : decode cX7_nods 118 = .ok (.istore 10, 2) := by decide +kernel
theorem dX7_nods_120 : decode cX7_nods 120 = .ok (.iload 7, 2) := by decide +kernel
theorem dX7_nods_122 : decode cX7_nods 122 = .ok (.iload 10, 2) := by decide +kernel
theorem dX7_nods_124 : decode cX7_nods 124 = .ok (.ifCond .eq 14, 3) := by decide +kernel
theorem dX7_nods_127 : decode cX7_nods 127 = .ok (.iload 9, 2) := by decide +kernel
theorem dX7_nods_129 : decode cX7_nods 129 = .ok (.iload 5, 2) := by decide +kernel
theorem dX7_nods_131 : decode cX7_nods 131 = .ok (.if_icmp .gt 7, 3) := by decide +kernel
theorem dX7_nods_134 : decode cX7_nods 134 = .ok (.iconst 1, 1) := by decide +kernel
theorem dX7_nods_135 : decode cX7_nods 135 = .ok (.goto 4, 3) := by decide +kernel
theorem dX7_nods_138 : decode cX7_nods 138 = .ok (.iconst 0, 1) := by decide +kernel
theorem dX7_nods_139 : decode cX7_nods 139 = .ok (.iadd, 1) := by decide +kernel
theorem dX7_nods_140 : decode cX7_nods 140 = .ok (.istore 7, 2) := by decide +kernel
theorem dX7_nods_142 : decode cX7_nods 142 = .ok (.iload 10, 2) := by decide +kernel
theorem dX7_nods_144 : decode cX7_nods 144 = .ok (.ifCond .eq 13, 3) := by decide +kernel
theorem dX7_nods_147 : decode cX7_nods 147 = .ok (.iload 8, 2) := by decide +kernel
theorem dX7_nods_149 : decode cX7_nods 149 = .ok (.ifCond .ge 8, 3) := by decide +kernel
theorem dX7_nods_152 : decode cX7_nods 152 = .ok (.iload 9, 2) := by decide +kernel
theorem dX7_nods_154 : decode cX7_nods 154 = .ok (.goto 5, 3) := by decide +kernel
theorem dX7_nods_157 : decode cX7_nods 157 = .ok (.iload 8, 2) := by decide +kernel
theorem dX7_nods_159 : decode cX7_nods 159 = .ok (.istore 8, 2) := by decide +kernel
theorem dX7_nods_161 : decode cX7_nods 161 = .ok (.iinc 9 1, 3) := by decide +kernel
theorem dX7_nods_164 : decode cX7_nods 164 = .ok (.goto (-88), 3) := by decide +kernel
theorem dX7_nods_167 : decode cX7_nods 167 = .ok (.iload 6, 2) := by decide +kernel
theorem dX7_nods_169 : decode cX7_nods 169 = .ok (.ifCond .ne 8, 3) := by decide +kernel
theorem dX7_nods_172 : decode cX7_nods 172 = .ok (.iload 7, 2) := by decide +kernel
theorem dX7_nods_174 : decode cX7_nods 174 = .ok (.goto 5, 3) := by decide +kernel
theorem dX7_nods_177 : decode cX7_nods 177 = .ok (.iload 8, 2) := by decide +kernel
theorem dX7_nods_179 : decode cX7_nods 179 = .ok (.ireturn, 1) := by decide +kernel
theorem dX7_seen_0 : decode cX7_seen 0 = .ok (.iload_n 1, 1) := by decide +kernel
theorem dX7_seen_1 : decode cX7_seen 1 = .ok (.iconst 0, 1) := by decide +kernel
theorem dX7_seen_2 : decode cX7_seen 2 = .ok (.bipush 20, 2) := by decide +kernel
theorem dX7_seen_4 : decode cX7_seen 4 = .ok (.invokestatic 48, 3) := by decide +kernel
theorem dX7_seen_7 : decode cX7_seen 7 = .ok (.ifCond .eq 13, 3) := by decide +kernel
theorem dX7_seen_10 : decode cX7_seen 10 = .ok (.iload_n 2, 1) := by decide +kernel
theorem dX7_seen_11 : decode cX7_seen 11 = .ok (.iconst 0, 1) := by decide +kernel
theorem dX7_seen_12 : decode cX7_seen 12 = .ok (.bipush 6, 2) := by decide +kernel
theorem dX7_seen_14 : decode cX7_seen 14 = .ok (.invokestatic 48, 3) := by decide +kernel
theorem dX7_seen_17 : decode cX7_seen 17 = .ok (.ifCond .ne 6, 3) := by decide +kernel
theorem dX7_seen_20 : decode cX7_seen 20 = .ok (.bipush (-2), 2) := by decide +kernel
theorem dX7_seen_22 : decode cX7_seen 22 = .ok (.ireturn, 1) := by decide +kernel
theorem dX7_seen_23 : decode cX7_seen 23 = .ok (.aload_n 0, 1) := by decide +kernel
theorem dX7_seen_24 : decode cX7_seen 24 = .ok (.getfield 131, 3) := by decide +kernel
theorem dX7_seen_27 : decode cX7_seen 27 = .ok (.bipush 8, 2) := by decide +kernel
theorem dX7_seen_29 : decode cX7_seen 29 = .ok (.if_icmp .ne 6, 3) := by decide +kernel
theorem dX7_seen_32 : decode cX7_seen 32 = .ok (.bipush (-4), 2) := by decide +kernel
theorem dX7_seen_34 : decode cX7_seen 34 = .ok (.ireturn, 1) := by decide +kernel
theorem dX7_seen_35 : decode cX7_seen 35 = .ok (.aload_n 0, 1) := by decide +kernel
theorem dX7_seen_36 : decode cX7_seen 36 = .ok (.getfield 20, 3) := by decide +kernel
theorem dX7_seen_39 : decode cX7_seen 39 = .ok (.iconst 2, 1) := by decide +kernel
theorem dX7_seen_40 : decode cX7_seen 40 = .ok (.aload_n 0, 1) := by decide +kernel
theorem dX7_seen_41 : decode cX7_seen 41 = .ok (.getfield 131, 3) := by decide +kernel
theorem dX7_seen_44 : decode cX7_seen 44 = .ok (.imul, 1) := by decide +kernel
theorem dX7_seen_45 : decode cX7_seen 45 = .ok (.iload_n 1, 1) := by decide +kernel
theorem dX7_seen_46 : decode cX7_seen 46 = .ok (.iastore, 1) := by decide +kernel
theorem dX7_seen_47 : decode cX7_seen 47 = .ok (.aload_n 0, 1) := by decide +kernel
theorem dX7_seen_48 : decode cX7_seen 48 = .ok (.getfield 20, 3) := by decide +kernel
theorem dX7_seen_51 : decode cX7_seen 51 = .ok (.iconst 2, 1) := by decide +kernel
theorem dX7_seen_52 : decode cX7_seen 52 = .ok (.aload_n 0, 1) := by decide +kernel
theorem dX7_seen_53 : decode cX7_seen 53 = .ok (.getfield 131, 3) := by decide +kernel
theorem dX7_seen_56 : decode cX7_seen 56 = .ok (.imul, 1) := by decide +kernel
theorem dX7_seen_57 : decode cX7_seen 57 = .ok (.iconst 1, 1) := by decide +kernel
theorem dX7_seen_58 : decode cX7_seen 58 = .ok (.iadd, 1) := by decide +kernel
theorem dX7_seen_59 : decode cX7_seen 59 = .ok (.iload_n 2, 1) := by decide +kernel
theorem dX7_seen_60 : decode cX7_seen 60 = .ok (.iastore, 1) := by decide +kernel
theorem dX7_seen_61 : decode cX7_seen 61 = .ok (.aload_n 0, 1) := by decide +kernel
theorem dX7_seen_62 : decode cX7_seen 62 = .ok (.dup, 1) := by decide +kernel
theorem dX7_seen_63 : decode cX7_seen 63 = .ok (.getfield 131, 3) := by decide +kernel
theorem dX7_seen_66 : decode cX7_seen 66 = .ok (.iconst 1, 1) := by decide +kernel
theorem dX7_seen_67 : decode cX7_seen 67 = .ok (.iadd, 1) := by decide +kernel
theorem dX7_seen_68 : decode cX7_seen 68 = .ok (.putfield 131, 3) := by decide +kernel
theorem dX7_seen_71 : decode cX7_seen 71 = .ok (.aload_n 0, 1) := by decide +kernel
theorem dX7_seen_72 : decode cX7_seen 72 = .ok (.getfield 131, 3) := by decide +kernel
theorem dX7_seen_75 : decode cX7_seen 75 = .ok (.ireturn, 1) := by decide +kernel
theorem dX7_forget_0 : decode cX7_forget 0 = .ok (.aload_n 0, 1) := by decide +kernel
theorem dX7_forget_1 : decode cX7_forget 1 = .ok (.getfield 131, 3) := by decide +kernel
theorem dX7_forget_4 : decode cX7_forget 4 = .ok (.istore_n 1, 1) := by decide +kernel
theorem dX7_forget_5 : decode cX7_forget 5 = .ok (.aload_n 0, 1) := by decide +kernel
theorem dX7_forget_6 : decode cX7_forget 6 = .ok (.iconst 0, 1) := by decide +kernel
theorem dX7_forget_7 : decode cX7_forget 7 = .ok (.putfield 131, 3) := by decide +kernel
theorem dX7_forget_10 : decode cX7_forget 10 = .ok (.iload_n 1, 1) := by decide +kernel
theorem dX7_forget_11 : decode cX7_forget 11 = .ok (.ireturn, 1) := by decide +kernel
theorem dX7_colour_0 : decode cX7_colour 0 = .ok (.iload_n 0, 1) := by decide +kernel
theorem dX7_colour_1 : decode cX7_colour 1 = .ok (.bipush 10, 2) := by decide +kernel
theorem dX7_colour_3 : decode cX7_colour 3 = .ok (.idiv, 1) := by decide +kernel
theorem dX7_colour_4 : decode cX7_colour 4 = .ok (.iload_n 0, 1) := by decide +kernel
theorem dX7_colour_5 : decode cX7_colour 5 = .ok (.bipush 10, 2) := by decide +kernel
theorem dX7_colour_7 : decode cX7_colour 7 = .ok (.irem, 1) := by decide +kernel
theorem dX7_colour_8 : decode cX7_colour 8 = .ok (.iload_n 1, 1) := by decide +kernel
theorem dX7_colour_9 : decode cX7_colour 9 = .ok (.imul, 1) := by decide +kernel
theorem dX7_colour_10 : decode cX7_colour 10 = .ok (.iadd, 1) := by decide +kernel
theorem dX7_colour_11 : decode cX7_colour 11 = .ok (.bipush 7, 2) := by decide +kernel
theorem dX7_colour_13 : decode cX7_colour 13 = .ok (.irem, 1) := by decide +kernel
theorem dX7_colour_14 : decode cX7_colour 14 = .ok (.ireturn, 1) := by decide +kernel
theorem dX7_isFit_0 : decode cX7_isFit 0 = .ok (.iload_n 1, 1) := by decide +kernel
theorem dX7_isFit_1 : decode cX7_isFit 1 = .ok (.bipush 10, 2) := by decide +kernel
theorem dX7_isFit_3 : decode cX7_isFit 3 = .ok (.irem, 1) := by decide +kernel
theorem dX7_isFit_4 : decode cX7_isFit 4 = .ok (.bipush 7, 2) := by decide +kernel
theorem dX7_isFit_6 : decode cX7_isFit 6 = .ok (.if_icmp .ge 7, 3) := by decide +kernel
theorem dX7_isFit_9 : decode cX7_isFit 9 = .ok (.iconst 1, 1) := by decide +kernel
theorem dX7_isFit_10 : decode cX7_isFit 10 = .ok (.goto 4, 3) := by decide +kernel
theorem dX7_isFit_13 : decode cX7_isFit 13 = .ok (.iconst 0, 1) := by decide +kernel
theorem dX7_isFit_14 : decode cX7_isFit 14 = .ok (.istore_n 2, 1) := by decide +kernel
theorem dX7_isFit_15 : decode cX7_isFit 15 = .ok (.iconst 0, 1) := by decide +kernel
theorem dX7_isFit_16 : decode cX7_isFit 16 = .ok (.istore_n 3, 1) := by decide +kernel
theorem dX7_isFit_17 : decode cX7_isFit 17 = .ok (.iload_n 3, 1) := by decide +kernel
theorem dX7_isFit_18 : decode cX7_isFit 18 = .ok (.aload_n 0, 1) := by decide +kernel
theorem dX7_isFit_19 : decode cX7_isFit 19 = .ok (.getfield 131, 3) := by decide +kernel
theorem dX7_isFit_22 : decode cX7_isFit 22 = .ok (.if_icmp .ge 44, 3) := by decide +kernel
theorem dX7_isFit_25 : decode cX7_isFit 25 = .ok (.iload_n 2, 1) := by decide +kernel
theorem dX7_isFit_26 : decode cX7_isFit 26 = .ok (.ifCond .eq 40, 3) := by decide +kernel
theorem dX7_isFit_29 : decode cX7_isFit 29 = .ok (.iload_n 1, 1) := by decide +kernel
theorem dX7_isFit_30 : decode cX7_isFit 30 = .ok (.aload_n 0, 1) := by decide +kernel
theorem dX7_isFit_31 : decode cX7_isFit 31 = .ok (.getfield 20, 3) := by decide +kernel
theorem dX7_isFit_34 : decode cX7_isFit 34 = .ok (.iconst 2, 1) := by decide +kernel
theorem dX7_isFit_35 : decode cX7_isFit 35 = .ok (.iload_n 3, 1) := by decide +kernel
theorem dX7_isFit_36 : decode cX7_isFit 36 = .ok (.imul, 1) := by decide +kernel
theorem dX7_isFit_37 : decode cX7_isFit 37 = .ok (.iaload, 1) := by decide +kernel
theorem dX7_isFit_38 : decode cX7_isFit 38 = .ok (.invokestatic 134, 3) := by decide +kernel
theorem dX7_isFit_41 : decode cX7_isFit 41 = .ok (.aload_n 0, 1) := by decide +kernel
theorem dX7_isFit_42 : decode cX7_isFit 42 = .ok (.getfield 20, 3) := by decide +kernel
theorem dX7_isFit_45 : decode cX7_isFit 45 = .ok (.iconst 2, 1) := by decide +kernel
theorem dX7_isFit_46 : decode cX7_isFit 46 = .ok (.iload_n 3, 1) := by decide +kernel
theorem dX7_isFit_47 : decode cX7_isFit 47 = .ok (.imul, 1) := by decide +kernel
theorem dX7_isFit_48 : decode cX7_isFit 48 = .ok (.iconst 1, 1) := by decide +kernel
theorem dX7_isFit_49 : decode cX7_isFit 49 = .ok (.iadd, 1) := by decide +kernel
theorem dX7_isFit_50 : decode cX7_isFit 50 = .ok (.iaload, 1) := by decide +kernel
theorem dX7_isFit_51 : decode cX7_isFit 51 = .ok (.if_icmp .ne 7, 3) := by decide +kernel
theorem dX7_isFit_54 : decode cX7_isFit 54 = .ok (.iconst 1, 1) := by decide +kernel
theorem dX7_isFit_55 : decode cX7_isFit 55 = .ok (.goto 4, 3) := by decide +kernel
theorem dX7_isFit_58 : decode cX7_isFit 58 = .ok (.iconst 0, 1) := by decide +kernel
theorem dX7_isFit_59 : decode cX7_isFit 59 = .ok (.istore_n 2, 1) := by decide +kernel
theorem dX7_isFit_60 : decode cX7_isFit 60 = .ok (.iinc 3 1, 3) := by decide +kernel
theorem dX7_isFit_63 : decode cX7_isFit 63 = .ok (.goto (-46), 3) := by decide +kernel
theorem dX7_isFit_66 : decode cX7_isFit 66 = .ok (.iload_n 2, 1) := by decide +kernel
theorem dX7_isFit_67 : decode cX7_isFit 67 = .ok (.ireturn, 1) := by decide +kernel
theorem dX7_matter_0 : decode cX7_matter 0 = .ok (.iconst 0, 1) := by decide +kernel
theorem dX7_matter_1 : decode cX7_matter 1 = .ok (.istore_n 2, 1) := by decide +kernel
theorem dX7_matter_2 : decode cX7_matter 2 = .ok (.iconst 0, 1) := by decide +kernel
theorem dX7_matter_3 : decode cX7_matter 3 = .ok (.istore_n 3, 1) := by decide +kernel
theorem dX7_matter_4 : decode cX7_matter 4 = .ok (.iload_n 3, 1) := by decide +kernel
theorem dX7_matter_5 : decode cX7_matter 5 = .ok (.bipush 70, 2) := by decide +kernel
theorem dX7_matter_7 : decode cX7_matter 7 = .ok (.if_icmp .ge 27, 3) := by decide +kernel
theorem dX7_matter_10 : decode cX7_matter 10 = .ok (.aload_n 0, 1) := by decide +kernel
theorem dX7_matter_11 : decode cX7_matter 11 = .ok (.iload_n 3, 1) := by decide +kernel
theorem dX7_matter_12 : decode cX7_matter 12 = .ok (.invokevirtual 137, 3) := by decide +kernel
theorem dX7_matter_15 : decode cX7_matter 15 = .ok (.ifCond .eq 13, 3) := by decide +kernel
theorem dX7_matter_18 : decode cX7_matter 18 = .ok (.iload_n 2, 1) := by decide +kernel
theorem dX7_matter_19 : decode cX7_matter 19 = .ok (.iload_n 1, 1) := by decide +kernel
theorem dX7_matter_20 : decode cX7_matter 20 = .ok (.if_icmp .ne 5, 3) := by decide +kernel
theorem dX7_matter_23 : decode cX7_matter 23 = .ok (.iload_n 3, 1) := by decide +kernel
theorem dX7_matter_24 : decode cX7_matter 24 = .ok (.ireturn, 1) := by decide +kernel
theorem dX7_matter_25 : decode cX7_matter 25 = .ok (.iinc 2 1, 3) := by decide +kernel
theorem dX7_matter_28 : decode cX7_matter 28 = .ok (.iinc 3 1, 3) := by decide +kernel
theorem dX7_matter_31 : decode cX7_matter 31 = .ok (.goto (-27), 3) := by decide +kernel
theorem dX7_matter_34 : decode cX7_matter 34 = .ok (.iload_n 1, 1) := by decide +kernel
theorem dX7_matter_35 : decode cX7_matter 35 = .ok (.iconst (-1), 1) := by decide +kernel
theorem dX7_matter_36 : decode cX7_matter 36 = .ok (.if_icmp .ne 7, 3) := by decide +kernel
theorem dX7_matter_39 : decode cX7_matter 39 = .ok (.iload_n 2, 1) := by decide +kernel
theorem dX7_matter_40 : decode cX7_matter 40 = .ok (.goto 5, 3) := by decide +kernel
theorem dX7_matter_43 : decode cX7_matter 43 = .ok (.bipush (-6), 2) := by decide +kernel
theorem dX7_matter_45 : decode cX7_matter 45 = .ok (.ireturn, 1) := by decide +kernel
theorem dX7_ask_0 : decode cX7_ask 0 = .ok (.iload_n 1, 1) := by decide +kernel
theorem dX7_ask_1 : decode cX7_ask 1 = .ok (.iconst 0, 1) := by decide +kernel
theorem dX7_ask_2 : decode cX7_ask 2 = .ok (.iconst 1, 1) := by decide +kernel
theorem dX7_ask_3 : decode cX7_ask 3 = .ok (.invokestatic 48, 3) := by decide +kernel
theorem dX7_ask_6 : decode cX7_ask 6 = .ok (.ifCond .ne 6, 3) := by decide +kernel
theorem dX7_ask_9 : decode cX7_ask 9 = .ok (.bipush (-2), 2) := by decide +kernel
theorem dX7_ask_11 : decode cX7_ask 11 = .ok (.ireturn, 1) := by decide +kernel
theorem dX7_ask_12 : decode cX7_ask 12 = .ok (.bipush (-6), 2) := by decide +kernel
theorem dX7_ask_14 : decode cX7_ask 14 = .ok (.istore_n 2, 1) := by decide +kernel
theorem dX7_ask_15 : decode cX7_ask 15 = .ok (.ldc 140, 2) := by decide +kernel
theorem dX7_ask_17 : decode cX7_ask 17 = .ok (.istore_n 3, 1) := by decide +kernel
theorem dX7_ask_18 : decode cX7_ask 18 = .ok (.iconst 0, 1) := by decide +kernel
theorem dX7_ask_19 : decode cX7_ask 19 = .ok (.istore 4, 2) := by decide +kernel
theorem dX7_ask_21 : decode cX7_ask 21 = .ok (.iload 4, 2) := by decide +kernel
theorem dX7_ask_23 : decode cX7_ask 23 = .ok (.bipush 21, 2) := by decide +kernel
theorem dX7_ask_25 : decode cX7_ask 25 = .ok (.if_icmp .ge 149, 3) := by decide +kernel
theorem dX7_ask_28 : decode cX7_ask 28 = .ok (.iconst 0, 1) := by decide +kernel
theorem dX7_ask_29 : decode cX7_ask 29 = .ok (.istore 5, 2) := by decide +kernel
theorem dX7_ask_31 : decode cX7_ask 31 = .ok (.iconst 0, 1) := by decide +kernel
theorem dX7_ask_32 : decode cX7_ask 32 = .ok (.istore 6, 2) := by decide +kernel
theorem dX7_ask_34 : decode cX7_ask 34 = .ok (.iload 6, 2) := by decide +kernel
theorem dX7_ask_36 : decode cX7_ask 36 = .ok (.bipush 7, 2) := by decide +kernel
theorem dX7_ask_38 : decode cX7_ask 38 = .ok (.if_icmp .ge 17, 3) := by decide +kernel
theorem dX7_ask_41 : decode cX7_ask 41 = .ok (.aload_n 0, 1) := by decide +kernel
theorem dX7_ask_42 : decode cX7_ask 42 = .ok (.getfield 32, 3) := by decide +kernel
theorem dX7_ask_45 : decode cX7_ask 45 = .ok (.iload 6, 2) := by decide +kernel
theorem dX7_ask_47 : decode cX7_ask 47 = .ok (.iconst 0, 1) := by decide +kernel
theorem dX7_ask_48 : decode cX7_ask 48 = .ok (.iastore, 1) := by decide +kernel
theorem dX7_ask_49 : decode cX7_ask 49 = .ok (.iinc 6 1, 3) := by decide +kernel
theorem dX7_ask_52 : decode cX7_ask 52 = .ok (.goto (-18), 3) := by decide +kernel
theorem dX7_ask_55 : decode cX7_ask 55 = .ok (.iconst 0, 1) := by decide +kernel
theorem dX7_ask_56 : decode cX7_ask 56 = .ok (.istore 6, 2) := by decide +kernel
theorem dX7_ask_58 : decode cX7_ask 58 = .ok (.iload 6, 2) := by decide +kernel
theorem dX7_ask_60 : decode cX7_ask 60 = .ok (.bipush 70, 2) := by decide +kernel
theorem dX7_ask_62 : decode cX7_ask 62 = .ok (.if_icmp .ge 64, 3) := by decide +kernel
theorem dX7_ask_65 : decode cX7_ask 65 = .ok (.aload_n 0, 1) := by decide +kernel
theorem dX7_ask_66 : decode cX7_ask 66 = .ok (.iload 6, 2) := by decide +kernel
theorem dX7_ask_68 : decode cX7_ask 68 = .ok (.invokevirtual 137, 3) := by decide +kernel
theorem dX7_ask_71 : decode cX7_ask 71 = .ok (.ifCond .eq 49, 3) := by decide +kernel
theorem dX7_ask_74 : decode cX7_ask 74 = .ok (.iload 6, 2) := by decide +kernel
theorem dX7_ask_76 : decode cX7_ask 76 = .ok (.iload 4, 2) := by decide +kernel
theorem dX7_ask_78 : decode cX7_ask 78 = .ok (.invokestatic 134, 3) := by decide +kernel
theorem dX7_ask_81 : decode cX7_ask 81 = .ok (.istore 7, 2) := by decide +kernel
theorem dX7_ask_83 : decode cX7_ask 83 = .ok (.aload_n 0, 1) := by decide +kernel
theorem dX7_ask_84 : decode cX7_ask 84 = .ok (.getfield 32, 3) := by decide +kernel
theorem dX7_ask_87 : decode cX7_ask 87 = .ok (.iload 7, 2) := by decide +kernel
theorem dX7_ask_89 : decode cX7_ask 89 = .ok (.dup2, 1) := by decide +kernel
theorem dX7_ask_90 : decode cX7_ask 90 = .ok (.iaload, 1) := by decide +kernel
theorem dX7_ask_91 : decode cX7_ask 91 = .ok (.iconst 1, 1) := by decide +kernel
theorem dX7_ask_92 : decode cX7_ask 92 = .ok (.iadd, 1) := by decide +kernel
theorem dX7_ask_93 : decode cX7_ask 93 = .ok (.iastore, 1) := by decide +kernel
theorem dX7_ask_94 : decode cX7_ask 94 = .ok (.aload_n 0, 1) := by decide +kernel
theorem dX7_ask_95 : decode cX7_ask 95 = .ok (.getfield 32, 3) := by decide +kernel
theorem dX7_ask_98 : decode cX7_ask 98 = .ok (.iload 7, 2) := by decide +kernel
theorem dX7_ask_100 : decode cX7_ask 100 = .ok (.iaload, 1) := by decide +kernel
theorem dX7_ask_101 : decode cX7_ask 101 = .ok (.iload 5, 2) := by decide +kernel
theorem dX7_ask_103 : decode cX7_ask 103 = .ok (.if_icmp .le 13, 3) := by decide +kernel
theorem dX7_ask_106 : decode cX7_ask 106 = .ok (.aload_n 0, 1) := by decide +kernel
theorem dX7_ask_107 : decode cX7_ask 107 = .ok (.getfield 32, 3) := by decide +kernel
theorem dX7_ask_110 : decode cX7_ask 110 = .ok (.iload 7, 2) := by decide +kernel
theorem dX7_ask_112 : decode cX7_ask 112 = .ok (.iaload, 1) := by decide +kernel
theorem dX7_ask_113 : decode cX7_ask 113 = .ok (.goto 5, 3) := by decide +kernel
theorem dX7_ask_116 : decode cX7_ask 116 = .ok (.iload 5, 2) := by decide +kernel
theorem dX7_ask_118 : decode cX7_ask 118 = .ok (.istore 5, 2) := by decide +kernel
theorem dX7_ask_120 : decode cX7_ask 120 = .ok (.iinc 6 1, 3) := by decide +kernel
theorem dX7_ask_123 : decode cX7_ask 123 = .ok (.goto (-65), 3) := by decide +kernel
theorem dX7_ask_126 : decode cX7_ask 126 = .ok (.iload 5, 2) := by decide +kernel
theorem dX7_ask_128 : decode cX7_ask 128 = .ok (.ifCond .le 13, 3) := by decide +kernel
theorem dX7_ask_131 : decode cX7_ask 131 = .ok (.iload 5, 2) := by decide +kernel
theorem dX7_ask_133 : decode cX7_ask 133 = .ok (.iload_n 3, 1) := by decide +kernel
theorem dX7_ask_134 : decode cX7_ask 134 = .ok (.if_icmp .ge 7, 3) := by decide +kernel
theorem dX7_ask_137 : decode cX7_ask 137 = .ok (.iconst 1, 1) := by decide +kernel
theorem dX7_ask_138 : decode cX7_ask 138 = .ok (.goto 4, 3) := by decide +kernel
theorem dX7_ask_141 : decode cX7_ask 141 = .ok (.iconst 0, 1) := by decide +kernel
theorem dX7_ask_142 : decode cX7_ask 142 = .ok (.istore 6, 2) := by decide +kernel
theorem dX7_ask_144 : decode cX7_ask 144 = .ok (.iload 6, 2) := by decide +kernel
theorem dX7_ask_146 : decode cX7_ask 146 = .ok (.ifCond .eq 8, 3) := by decide +kernel
theorem dX7_ask_149 : decode cX7_ask 149 = .ok (.iload 4, 2) := by decide +kernel
theorem dX7_ask_151 : decode cX7_ask 151 = .ok (.goto 4, 3) := by decide +kernel
theorem dX7_ask_154 : decode cX7_ask 154 = .ok (.iload_n 2, 1) := by decide +kernel
theorem dX7_ask_155 : decode cX7_ask 155 = .ok (.istore_n 2, 1) := by decide +kernel
theorem dX7_ask_156 : decode cX7_ask 156 = .ok (.iload 6, 2) := by decide +kernel
theorem dX7_ask_158 : decode cX7_ask 158 = .ok (.ifCond .eq 8, 3) := by decide +kernel
theorem dX7_ask_161 : decode cX7_ask 161 = .ok (.iload 5, 2) := by decide +kernel
theorem dX7_ask_163 : decode cX7_ask 163 = .ok (.goto 4, 3) := by decide +kernel
theorem dX7_ask_166 : decode cX7_ask 166 = .ok (.iload_n 3, 1) := by decide +kernel
theorem dX7_ask_167 : decode cX7_ask 167 = .ok (.istore_n 3, 1) := by decide +kernel
theorem dX7_ask_168 : decode cX7_ask 168 = .ok (.iinc 4 1, 3) := by decide +kernel
theorem dX7_ask_171 : decode cX7_ask 171 = .ok (.goto (-150), 3) := by decide +kernel
theorem dX7_ask_174 : decode cX7_ask 174 = .ok (.iload_n 2, 1) := by decide +kernel
theorem dX7_ask_175 : decode cX7_ask 175 = .ok (.ifCond .lt 7, 3) := by decide +kernel
theorem dX7_ask_178 : decode cX7_ask 178 = .ok (.iload_n 1, 1) := by decide +kernel
theorem dX7_ask_179 : decode cX7_ask 179 = .ok (.ifCond .ne 7, 3) := by decide +kernel
theorem dX7_ask_182 : decode cX7_ask 182 = .ok (.iload_n 2, 1) := by decide +kernel
theorem dX7_ask_183 : decode cX7_ask 183 = .ok (.goto 4, 3) := by decide +kernel
theorem dX7_ask_186 : decode cX7_ask 186 = .ok (.iload_n 3, 1) := by decide +kernel
theorem dX7_ask_187 : decode cX7_ask 187 = .ok (.ireturn, 1) := by decide +kernel
theorem dX7_layWorth_0 : decode cX7_layWorth 0 = .ok (.iconst 1, 1) := by decide +kernel
theorem dX7_layWorth_1 : decode cX7_layWorth 1 = .ok (.istore_n 2, 1) := by decide +kernel
theorem dX7_layWorth_2 : decode cX7_layWorth 2 = .ok (.iload_n 2, 1) := by decide +kernel
theorem dX7_layWorth_3 : decode cX7_layWorth 3 = .ok (.iload_n 1, 1) := by decide +kernel
theorem dX7_layWorth_4 : decode cX7_layWorth 4 = .ok (.if_icmp .gt 109, 3) := by decide +kernel
theorem dX7_layWorth_7 : decode cX7_layWorth 7 = .ok (.iconst 0, 1) := by decide +kernel
theorem dX7_layWorth_8 : decode cX7_layWorth 8 = .ok (.istore_n 3, 1) := by decide +kernel
theorem dX7_layWorth_9 : decode cX7_layWorth 9 = .ok (.iload_n 3, 1) := by decide +kernel
theorem dX7_layWorth_10 : decode cX7_layWorth 10 = .ok (.bipush 64, 2) := by decide +kernel
theorem dX7_layWorth_12 : decode cX7_layWorth 12 = .ok (.if_icmp .ge 16, 3) := by decide +kernel
theorem dX7_layWorth_15 : decode cX7_layWorth 15 = .ok (.aload_n 0, 1) := by decide +kernel
theorem dX7_layWorth_16 : decode cX7_layWorth 16 = .ok (.getfield 38, 3) := by decide +kernel
theorem dX7_layWorth_19 : decode cX7_layWorth 19 = .ok (.iload_n 3, 1) := by decide +kernel
theorem dX7_layWorth_20 : decode cX7_layWorth 20 = .ok (.iconst 0, 1) := by decide +kernel
theorem dX7_layWorth_21 : decode cX7_layWorth 21 = .ok (.bastore, 1) := by decide +kernel
theorem dX7_layWorth_22 : decode cX7_layWorth 22 = .ok (.iinc 3 1, 3) := by decide +kernel
theorem dX7_layWorth_25 : decode cX7_layWorth 25 = .ok (.goto (-16), 3) := by decide +kernel
theorem dX7_layWorth_28 : decode cX7_layWorth 28 = .ok (.iconst 1, 1) := by decide +kernel
theorem dX7_layWorth_29 : decode cX7_layWorth 29 = .ok (.istore_n 3, 1) := by decide +kernel
theorem dX7_layWorth_30 : decode cX7_layWorth 30 = .ok (.iload_n 3, 1) := by decide +kernel
theorem dX7_layWorth_31 : decode cX7_layWorth 31 = .ok (.iconst 3, 1) := by decide +kernel
theorem dX7_layWorth_32 : decode cX7_layWorth 32 = .ok (.if_icmp .ge 51, 3) := by decide +kernel
theorem dX7_layWorth_35 : decode cX7_layWorth 35 = .ok (.iconst 0, 1) := by decide +kernel
theorem dX7_layWorth_36 : decode cX7_layWorth 36 = .ok (.istore 4, 2) := by decide +kernel
theorem dX7_layWorth_38 : decode cX7_layWorth 38 = .ok (.iload 4, 2) := by decide +kernel
theorem dX7_layWorth_40 : decode cX7_layWorth 40 = .ok (.iload_n 3, 1) := by decide +kernel
theorem dX7_layWorth_41 : decode cX7_layWorth 41 = .ok (.iadd, 1) := by decide +kernel
theorem dX7_layWorth_42 : decode cX7_layWorth 42 = .ok (.iload_n 2, 1) := by decide +kernel
theorem dX7_layWorth_43 : decode cX7_layWorth 43 = .ok (.if_icmp .gt 34, 3) := by decide +kernel
theorem dX7_layWorth_46 : decode cX7_layWorth 46 = .ok (.aload_n 0, 1) := by decide +kernel
theorem dX7_layWorth_47 : decode cX7_layWorth 47 = .ok (.getfield 38, 3) := by decide +kernel
theorem dX7_layWorth_50 : decode cX7_layWorth 50 = .ok (.aload_n 0, 1) := by decide +kernel
theorem dX7_layWorth_51 : decode cX7_layWorth 51 = .ok (.getfield 35, 3) := by decide +kernel
theorem dX7_layWorth_54 : decode cX7_layWorth 54 = .ok (.iload 4, 2) := by decide +kernel
theorem dX7_layWorth_56 : decode cX7_layWorth 56 = .ok (.iaload, 1) := by decide +kernel
theorem dX7_layWorth_57 : decode cX7_layWorth 57 = .ok (.aload_n 0, 1) := by decide +kernel
theorem dX7_layWorth_58 : decode cX7_layWorth 58 = .ok (.getfield 35, 3) := by decide +kernel
theorem dX7_layWorth_61 : decode cX7_layWorth 61 = .ok (.iload_n 2, 1) := by decide +kernel
theorem dX7_layWorth_62 : decode cX7_layWorth 62 = .ok (.iload_n 3, 1) := by decide +kernel
theorem dX7_layWorth_63 : decode cX7_layWorth 63 = .ok (.isub, 1) := by decide +kernel
theorem dX7_layWorth_64 : decode cX7_layWorth 64 = .ok (.iload 4, 2) := by decide +kernel
theorem dX7_layWorth_66 : decode cX7_layWorth 66 = .ok (.isub, 1) := by decide +kernel
theorem dX7_layWorth_67 : decode cX7_layWorth 67 = .ok (.iaload, 1) := by decide +kernel
theorem dX7_layWorth_68 : decode cX7_layWorth 68 = .ok (.ixor, 1) := by decide +kernel
theorem dX7_layWorth_69 : decode cX7_layWorth 69 = .ok (.iconst 1, 1) := by decide +kernel
theorem dX7_layWorth_70 : decode cX7_layWorth 70 = .ok (.bastore, 1) := by decide +kernel
theorem dX7_layWorth_71 : decode cX7_layWorth 71 = .ok (.iinc 4 1, 3) := by decide +kernel
theorem dX7_layWorth_74 : decode cX7_layWorth 74 = .ok (.goto (-36), 3) := by decide +kernel
theorem dX7_layWorth_77 : decode cX7_layWorth 77 = .ok (.iinc 3 1, 3) := by decide +kernel
theorem dX7_layWorth_80 : decode cX7_layWorth 80 = .ok (.goto (-50), 3) := by decide +kernel
theorem dX7_layWorth_83 : decode cX7_layWorth 83 = .ok (.iconst 0, 1) := by decide +kernel
theorem dX7_layWorth_84 : decode cX7_layWorth 84 = .ok (.istore_n 3, 1) := by decide +kernel
theorem dX7_layWorth_85 : decode cX7_layWorth 85 = .ok (.aload_n 0, 1) := by decide +kernel
theorem dX7_layWorth_86 : decode cX7_layWorth 86 = .ok (.getfield 38, 3) := by decide +kernel
theorem dX7_layWorth_89 : decode cX7_layWorth 89 = .ok (.iload_n 3, 1) := by decide +kernel
theorem dX7_layWorth_90 : decode cX7_layWorth 90 = .ok (.baload, 1) := by decide +kernel
theorem dX7_layWorth_91 : decode cX7_layWorth 91 = .ok (.ifCond .eq 9, 3) := by decide +kernel
theorem dX7_layWorth_94 : decode cX7_layWorth 94 = .ok (.iinc 3 1, 3) := by decide +kernel
theorem dX7_layWorth_97 : decode cX7_layWorth 97 = .ok (.goto (-12), 3) := by decide +kernel
theorem dX7_layWorth_100 : decode cX7_layWorth 100 = .ok (.aload_n 0, 1) := by decide +kernel
theorem dX7_layWorth_101 : decode cX7_layWorth 101 = .ok (.getfield 35, 3) := by decide +kernel
theorem dX7_layWorth_104 : decode cX7_layWorth 104 = .ok (.iload_n 2, 1) := by decide +kernel
theorem dX7_layWorth_105 : decode cX7_layWorth 105 = .ok (.iload_n 3, 1) := by decide +kernel
theorem dX7_layWorth_106 : decode cX7_layWorth 106 = .ok (.iastore, 1) := by decide +kernel
theorem dX7_layWorth_107 : decode cX7_layWorth 107 = .ok (.iinc 2 1, 3) := by decide +kernel
theorem dX7_layWorth_110 : decode cX7_layWorth 110 = .ok (.goto (-108), 3) := by decide +kernel
theorem dX7_layWorth_113 : decode cX7_layWorth 113 = .ok (.return_, 1) := by decide +kernel
theorem dX7_takes_0 : decode cX7_takes 0 = .ok (.iload_n 1, 1) := by decide +kernel
theorem dX7_takes_1 : decode cX7_takes 1 = .ok (.iconst 0, 1) := by decide +kernel
theorem dX7_takes_2 : decode cX7_takes 2 = .ok (.bipush 60, 2) := by decide +kernel
theorem dX7_takes_4 : decode cX7_takes 4 = .ok (.invokestatic 48, 3) := by decide +kernel
theorem dX7_takes_7 : decode cX7_takes 7 = .ok (.ifCond .eq 12, 3) := by decide +kernel
theorem dX7_takes_10 : decode cX7_takes 10 = .ok (.iload_n 2, 1) := by decide +kernel
theorem dX7_takes_11 : decode cX7_takes 11 = .ok (.iconst 0, 1) := by decide +kernel
theorem dX7_takes_12 : decode cX7_takes 12 = .ok (.iconst 1, 1) := by decide +kernel
theorem dX7_takes_13 : decode cX7_takes 13 = .ok (.invokestatic 48, 3) := by decide +kernel
theorem dX7_takes_16 : decode cX7_takes 16 = .ok (.ifCond .ne 6, 3) := by decide +kernel
theorem dX7_takes_19 : decode cX7_takes 19 = .ok (.bipush (-2), 2) := by decide +kernel
theorem dX7_takes_21 : decode cX7_takes 21 = .ok (.ireturn, 1) := by decide +kernel
theorem dX7_takes_22 : decode cX7_takes 22 = .ok (.aload_n 0, 1) := by decide +kernel
theorem dX7_takes_23 : decode cX7_takes 23 = .ok (.iload_n 1, 1) := by decide +kernel
theorem dX7_takes_24 : decode cX7_takes 24 = .ok (.invokevirtual 141, 3) := by decide +kernel
theorem dX7_takes_27 : decode cX7_takes 27 = .ok (.iload_n 2, 1) := by decide +kernel
theorem dX7_takes_28 : decode cX7_takes 28 = .ok (.ifCond .ne 18, 3) := by decide +kernel
theorem dX7_takes_31 : decode cX7_takes 31 = .ok (.aload_n 0, 1) := by decide +kernel
theorem dX7_takes_32 : decode cX7_takes 32 = .ok (.getfield 35, 3) := by decide +kernel
theorem dX7_takes_35 : decode cX7_takes 35 = .ok (.iload_n 1, 1) := by decide +kernel
theorem dX7_takes_36 : decode cX7_takes 36 = .ok (.iaload, 1) := by decide +kernel
theorem dX7_takes_37 : decode cX7_takes 37 = .ok (.ifCond .le 7, 3) := by decide +kernel
theorem dX7_takes_40 : decode cX7_takes 40 = .ok (.iconst 1, 1) := by decide +kernel
theorem dX7_takes_41 : decode cX7_takes 41 = .ok (.goto 4, 3) := by decide +kernel
theorem dX7_takes_44 : decode cX7_takes 44 = .ok (.iconst 0, 1) := by decide +kernel
theorem dX7_takes_45 : decode cX7_takes 45 = .ok (.ireturn, 1) := by decide +kernel
theorem dX7_takes_46 : decode cX7_takes 46 = .ok (.iconst 1, 1) := by decide +kernel
theorem dX7_takes_47 : decode cX7_takes 47 = .ok (.istore_n 3, 1) := by decide +kernel
theorem dX7_takes_48 : decode cX7_takes 48 = .ok (.iload_n 3, 1) := by decide +kernel
theorem dX7_takes_49 : decode cX7_takes 49 = .ok (.iconst 3, 1) := by decide +kernel
theorem dX7_takes_50 : decode cX7_takes 50 = .ok (.if_icmp .ge 55, 3) := by decide +kernel
theorem dX7_takes_53 : decode cX7_takes 53 = .ok (.iconst 0, 1) := by decide +kernel
theorem dX7_takes_54 : decode cX7_takes 54 = .ok (.istore 4, 2) := by decide +kernel
theorem dX7_takes_56 : decode cX7_takes 56 = .ok (.iload 4, 2) := by decide +kernel
theorem dX7_takes_58 : decode cX7_takes 58 = .ok (.iload_n 3, 1) := by decide +kernel
theorem dX7_takes_59 : decode cX7_takes 59 = .ok (.iadd, 1) := by decide +kernel
theorem dX7_takes_60 : decode cX7_takes 60 = .ok (.iload_n 1, 1) := by decide +kernel
theorem dX7_takes_61 : decode cX7_takes 61 = .ok (.if_icmp .gt 38, 3) := by decide +kernel
theorem dX7_takes_64 : decode cX7_takes 64 = .ok (.aload_n 0, 1) := by decide +kernel
theorem dX7_takes_65 : decode cX7_takes 65 = .ok (.getfield 35, 3) := by decide +kernel
theorem dX7_takes_68 : decode cX7_takes 68 = .ok (.iload 4, 2) := by decide +kernel
theorem dX7_takes_70 : decode cX7_takes 70 = .ok (.iaload, 1) := by decide +kernel
theorem dX7_takes_71 : decode cX7_takes 71 = .ok (.aload_n 0, 1) := by decide +kernel
theorem dX7_takes_72 : decode cX7_takes 72 = .ok (.getfield 35, 3) := by decide +kernel
theorem dX7_takes_75 : decode cX7_takes 75 = .ok (.iload_n 1, 1) := by decide +kernel
theorem dX7_takes_76 : decode cX7_takes 76 = .ok (.iload_n 3, 1) := by decide +kernel
theorem dX7_takes_77 : decode cX7_takes 77 = .ok (.isub, 1) := by decide +kernel
theorem dX7_takes_78 : decode cX7_takes 78 = .ok (.iload 4, 2) := by decide +kernel
theorem dX7_takes_80 : decode cX7_takes 80 = .ok (.isub, 1) := by decide +kernel
theorem dX7_takes_81 : decode cX7_takes 81 = .ok (.iaload, 1) := by decide +kernel
theorem dX7_takes_82 : decode cX7_takes 82 = .ok (.if_icmp .ne 11, 3) := by decide +kernel
theorem dX7_takes_85 : decode cX7_takes 85 = .ok (.bipush 100, 2) := by decide +kernel
theorem dX7_takes_87 : decode cX7_takes 87 = .ok (.iload_n 3, 1) := by decide +kernel
theorem dX7_takes_88 : decode cX7_takes 88 = .ok (.imul, 1) := by decide +kernel
theorem dX7_takes_89 : decode cX7_takes 89 = .ok (.iload 4, 2) := by decide +kernel
theorem dX7_takes_91 : decode cX7_takes 91 = .ok (.iadd, 1) := by decide +kernel
theorem dX7_takes_92 : decode cX7_takes 92 = .ok (.ireturn, 1) := by decide +kernel
theorem dX7_takes_93 : decode cX7_takes 93 = .ok (.iinc 4 1, 3) := by decide +kernel
theorem dX7_takes_96 : decode cX7_takes 96 = .ok (.goto (-40), 3) := by decide +kernel
theorem dX7_takes_99 : decode cX7_takes 99 = .ok (.iinc 3 1, 3) := by decide +kernel
theorem dX7_takes_102 : decode cX7_takes 102 = .ok (.goto (-54), 3) := by decide +kernel
theorem dX7_takes_105 : decode cX7_takes 105 = .ok (.bipush (-6), 2) := by decide +kernel
theorem dX7_takes_107 : decode cX7_takes 107 = .ok (.ireturn, 1) := by decide +kernel
theorem dX7_lowest_0 : decode cX7_lowest 0 = .ok (.lload_n 0, 1) := by decide +kernel
theorem dX7_lowest_1 : decode cX7_lowest 1 = .ok (.lstore 5, 2) := by decide +kernel
theorem dX7_lowest_3 : decode cX7_lowest 3 = .ok (.lload_n 2, 1) := by decide +kernel
theorem dX7_lowest_4 : decode cX7_lowest 4 = .ok (.lstore 7, 2) := by decide +kernel
theorem dX7_lowest_6 : decode cX7_lowest 6 = .ok (.lload 7, 2) := by decide +kernel
theorem dX7_lowest_8 : decode cX7_lowest 8 = .ok (.lconst 0, 1) := by decide +kernel
theorem dX7_lowest_9 : decode cX7_lowest 9 = .ok (.lcmp, 1) := by decide +kernel
theorem dX7_lowest_10 : decode cX7_lowest 10 = .ok (.ifCond .eq 21, 3) := by decide +kernel
theorem dX7_lowest_13 : decode cX7_lowest 13 = .ok (.lload 5, 2) := by decide +kernel
theorem dX7_lowest_15 : decode cX7_lowest 15 = .ok (.lload 7, 2) := by decide +kernel
theorem dX7_lowest_17 : decode cX7_lowest 17 = .ok (.lrem, 1) := by decide +kernel
theorem dX7_lowest_18 : decode cX7_lowest 18 = .ok (.lstore 9, 2) := by decide +kernel
theorem dX7_lowest_20 : decode cX7_lowest 20 = .ok (.lload 7, 2) := by decide +kernel
theorem dX7_lowest_22 : decode cX7_lowest 22 = .ok (.lstore 5, 2) := by decide +kernel
theorem dX7_lowest_24 : decode cX7_lowest 24 = .ok (.lload 9, 2) := by decide +kernel
theorem dX7_lowest_26 : decode cX7_lowest 26 = .ok (.lstore 7, 2) := by decide +kernel
theorem dX7_lowest_28 : decode cX7_lowest 28 = .ok (.goto (-22), 3) := by decide +kernel
theorem dX7_lowest_31 : decode cX7_lowest 31 = .ok (.iload 4, 2) := by decide +kernel
theorem dX7_lowest_33 : decode cX7_lowest 33 = .ok (.ifCond .ne 10, 3) := by decide +kernel
theorem dX7_lowest_36 : decode cX7_lowest 36 = .ok (.lload_n 0, 1) := by decide +kernel
theorem dX7_lowest_37 : decode cX7_lowest 37 = .ok (.lload 5, 2) := by decide +kernel
theorem dX7_lowest_39 : decode cX7_lowest 39 = .ok (.ldiv, 1) := by decide +kernel
theorem dX7_lowest_40 : decode cX7_lowest 40 = .ok (.goto 7, 3) := by decide +kernel
theorem dX7_lowest_43 : decode cX7_lowest 43 = .ok (.lload_n 2, 1) := by decide +kernel
theorem dX7_lowest_44 : decode cX7_lowest 44 = .ok (.lload 5, 2) := by decide +kernel
theorem dX7_lowest_46 : decode cX7_lowest 46 = .ok (.ldiv, 1) := by decide +kernel
theorem dX7_lowest_47 : decode cX7_lowest 47 = .ok (.lreturn, 1) := by decide +kernel
theorem dX7_lean_0 : decode cX7_lean 0 = .ok (.iload_n 1, 1) := by decide +kernel
theorem dX7_lean_1 : decode cX7_lean 1 = .ok (.iconst 0, 1) := by decide +kernel
theorem dX7_lean_2 : decode cX7_lean 2 = .ok (.bipush 8, 2) := by decide +kernel
theorem dX7_lean_4 : decode cX7_lean 4 = .ok (.invokestatic 48, 3) := by decide +kernel
theorem dX7_lean_7 : decode cX7_lean 7 = .ok (.ifCond .eq 41, 3) := by decide +kernel
theorem dX7_lean_10 : decode cX7_lean 10 = .ok (.iload_n 2, 1) := by decide +kernel
theorem dX7_lean_11 : decode cX7_lean 11 = .ok (.iconst 0, 1) := by decide +kernel
theorem dX7_lean_12 : decode cX7_lean 12 = .ok (.bipush 10, 2) := by decide +kernel
theorem dX7_lean_14 : decode cX7_lean 14 = .ok (.invokestatic 48, 3) := by decide +kernel
theorem dX7_lean_17 : decode cX7_lean 17 = .ok (.ifCond .eq 31, 3) := by decide +kernel
theorem dX7_lean_20 : decode cX7_lean 20 = .ok (.iload_n 3, 1) := by decide +kernel
theorem dX7_lean_21 : decode cX7_lean 21 = .ok (.iconst 0, 1) := by decide +kernel
theorem dX7_lean_22 : decode cX7_lean 22 = .ok (.iconst 1, 1) := by decide +kernel
theorem dX7_lean_23 : decode cX7_lean 23 = .ok (.invokestatic 48, 3) := by decide +kernel
theorem dX7_lean_26 : decode cX7_lean 26 = .ok (.ifCond .eq 22, 3) := by decide +kernel
theorem dX7_lean_29 : decode cX7_lean 29 = .ok (.iload_n 3, 1) := by decide +kernel
theorem dX7_lean_30 : decode cX7_lean 30 = .ok (.iconst 1, 1) := by decide +kernel
theorem dX7_lean_31 : decode cX7_lean 31 = .ok (.if_icmp .ne 7, 3) := by decide +kernel
theorem dX7_lean_34 : decode cX7_lean 34 = .ok (.iload_n 2, 1) := by decide +kernel
theorem dX7_lean_35 : decode cX7_lean 35 = .ok (.ifCond .eq 13, 3) := by decide +kernel
theorem dX7_lean_38 : decode cX7_lean 38 = .ok (.iload 4, 2) := by decide +kernel
theorem dX7_lean_40 : decode cX7_lean 40 = .ok (.iconst 0, 1) := by decide +kernel
theorem dX7_lean_41 : decode cX7_lean 41 = .ok (.iconst 1, 1) := by decide +kernel
theorem dX7_lean_42 : decode cX7_lean 42 = .ok (.invokestatic 48, 3) := by decide +kernel
theorem dX7_lean_45 : decode cX7_lean 45 = .ok (.ifCond .ne 7, 3) := by decide +kernel
theorem dX7_lean_48 : decode cX7_lean 48 = .ok (.ldc2_w 145, 3) := by decide +kernel
theorem dX7_lean_51 : decode cX7_lean 51 = .ok (.lreturn, 1) := by decide +kernel
theorem dX7_lean_52 : decode cX7_lean 52 = .ok (.iload_n 3, 1) := by decide +kernel
theorem dX7_lean_53 : decode cX7_lean 53 = .ok (.iconst 1, 1) := by decide +kernel
theorem dX7_lean_54 : decode cX7_lean 54 = .ok (.if_icmp .ne 16, 3) := by decide +kernel
theorem dX7_lean_57 : decode cX7_lean 57 = .ok (.ldc2_w 126, 3) := by decide +kernel
theorem dX7_lean_60 : decode cX7_lean 60 = .ok (.iload_n 2, 1) := by decide +kernel
theorem dX7_lean_61 : decode cX7_lean 61 = .ok (.iload_n 2, 1) := by decide +kernel
theorem dX7_lean_62 : decode cX7_lean 62 = .ok (.imul, 1) := by decide +kernel
theorem dX7_lean_63 : decode cX7_lean 63 = .ok (.i2l, 1) := by decide +kernel
theorem dX7_lean_64 : decode cX7_lean 64 = .ok (.iload 4, 2) := by decide +kernel
theorem dX7_lean_66 : decode cX7_lean 66 = .ok (.invokestatic 147, 3) := by decide +kernel
theorem dX7_lean_69 : decode cX7_lean 69 = .ok (.lreturn, 1) := by decide +kernel
theorem dX7_lean_70 : decode cX7_lean 70 = .ok (.lconst 1, 1) := by decide +kernel
theorem dX7_lean_71 : decode cX7_lean 71 = .ok (.lstore 5, 2) := by decide +kernel
theorem dX7_lean_73 : decode cX7_lean 73 = .ok (.lconst 1, 1) := by decide +kernel
theorem dX7_lean_74 : decode cX7_lean 74 = .ok (.lstore 7, 2) := by decide +kernel
theorem dX7_lean_76 : decode cX7_lean 76 = .ok (.iconst 0, 1) := by decide +kernel
theorem dX7_lean_77 : decode cX7_lean 77 = .ok (.istore 9, 2) := by decide +kernel
theorem dX7_lean_79 : decode cX7_lean 79 = .ok (.iload 9, 2) := by decide +kernel
theorem dX7_lean_81 : decode cX7_lean 81 = .ok (.iload_n 1, 1) := by decide +kernel
theorem dX7_lean_82 : decode cX7_lean 82 = .ok (.if_icmp .ge 29, 3) := by decide +kernel
theorem dX7_lean_85 : decode cX7_lean 85 = .ok (.lload 5, 2) := by decide +kernel
theorem dX7_lean_87 : decode cX7_lean 87 = .ok (.bipush 100, 2) := by decide +kernel
theorem dX7_lean_89 : decode cX7_lean 89 = .ok (.iload_n 2, 1) := by decide +kernel
theorem dX7_lean_90 : decode cX7_lean 90 = .ok (.iload_n 2, 1) := by decide +kernel
theorem dX7_lean_91 : decode cX7_lean 91 = .ok (.imul, 1) := by decide +kernel
theorem dX7_lean_92 : decode cX7_lean 92 = .ok (.isub, 1) := by decide +kernel
theorem dX7_lean_93 : decode cX7_lean 93 = .ok (.i2l, 1) := by decide +kernel
theorem dX7_lean_94 : decode cX7_lean 94 = .ok (.lmul, 1) := by decide +kernel
theorem dX7_lean_95 : decode cX7_lean 95 = .ok (.lstore 5, 2) := by decide +kernel
theorem dX7_lean_97 : decode cX7_lean 97 = .ok (.lload 7, 2) := by decide +kernel
theorem dX7_lean_99 : decode cX7_lean 99 = .ok (.ldc2_w 126, 3) := by decide +kernel
theorem dX7_lean_102 : decode cX7_lean 102 = .ok (.lmul, 1) := by decide +kernel
theorem dX7_lean_103 : decode cX7_lean 103 = .ok (.lstore 7, 2) := by decide +kernel
theorem dX7_lean_105 : decode cX7_lean 105 = .ok (.iinc 9 1, 3) := by decide +kernel
theorem dX7_lean_108 : decode cX7_lean 108 = .ok (.goto (-29), 3) := by decide +kernel
theorem dX7_lean_111 : decode cX7_lean 111 = .ok (.lload 5, 2) := by decide +kernel
theorem dX7_lean_113 : decode cX7_lean 113 = .ok (.lload 7, 2) := by decide +kernel
theorem dX7_lean_115 : decode cX7_lean 115 = .ok (.iload 4, 2) := by decide +kernel
theorem dX7_lean_117 : decode cX7_lean 117 = .ok (.invokestatic 147, 3) := by decide +kernel
theorem dX7_lean_120 : decode cX7_lean 120 = .ok (.lreturn, 1) := by decide +kernel
theorem dX7_year_0 : decode cX7_year 0 = .ok (.iload_n 1, 1) := by decide +kernel
theorem dX7_year_1 : decode cX7_year 1 = .ok (.iconst 0, 1) := by decide +kernel
theorem dX7_year_2 : decode cX7_year 2 = .ok (.sipush 9999, 3) := by decide +kernel
theorem dX7_year_5 : decode cX7_year 5 = .ok (.invokestatic 48, 3) := by decide +kernel
theorem dX7_year_8 : decode cX7_year 8 = .ok (.ifCond .eq 22, 3) := by decide +kernel
theorem dX7_year_11 : decode cX7_year 11 = .ok (.iload_n 2, 1) := by decide +kernel
theorem dX7_year_12 : decode cX7_year 12 = .ok (.iconst 1, 1) := by decide +kernel
theorem dX7_year_13 : decode cX7_year 13 = .ok (.bipush 99, 2) := by decide +kernel
theorem dX7_year_15 : decode cX7_year 15 = .ok (.invokestatic 48, 3) := by decide +kernel
theorem dX7_year_18 : decode cX7_year 18 = .ok (.ifCond .eq 12, 3) := by decide +kernel
theorem dX7_year_21 : decode cX7_year 21 = .ok (.iload_n 3, 1) := by decide +kernel
theorem dX7_year_22 : decode cX7_year 22 = .ok (.iconst 0, 1) := by decide +kernel
theorem dX7_year_23 : decode cX7_year 23 = .ok (.iconst 2, 1) := by decide +kernel
theorem dX7_year_24 : decode cX7_year 24 = .ok (.invokestatic 48, 3) := by decide +kernel
theorem dX7_year_27 : decode cX7_year 27 = .ok (.ifCond .ne 6, 3) := by decide +kernel
theorem dX7_year_30 : decode cX7_year 30 = .ok (.bipush (-2), 2) := by decide +kernel
theorem dX7_year_32 : decode cX7_year 32 = .ok (.ireturn, 1) := by decide +kernel
theorem dX7_year_33 : decode cX7_year 33 = .ok (.aload_n 0, 1) := by decide +kernel
theorem dX7_year_34 : decode cX7_year 34 = .ok (.invokevirtual 93, 3) := by decide +kernel
theorem dX7_year_37 : decode cX7_year 37 = .ok (.iload_n 1, 1) := by decide +kernel
theorem dX7_year_38 : decode cX7_year 38 = .ok (.istore 4, 2) := by decide +kernel
theorem dX7_year_40 : decode cX7_year 40 = .ok (.iconst 0, 1) := by decide +kernel
theorem dX7_year_41 : decode cX7_year 41 = .ok (.istore 5, 2) := by decide +kernel
theorem dX7_year_43 : decode cX7_year 43 = .ok (.iload 5, 2) := by decide +kernel
theorem dX7_year_45 : decode cX7_year 45 = .ok (.iload_n 2, 1) := by decide +kernel
theorem dX7_year_46 : decode cX7_year 46 = .ok (.if_icmp .ge 155, 3) := by decide +kernel
theorem dX7_year_49 : decode cX7_year 49 = .ok (.bipush 75, 2) := by decide +kernel
theorem dX7_year_51 : decode cX7_year 51 = .ok (.iload 4, 2) := by decide +kernel
theorem dX7_year_53 : decode cX7_year 53 = .ok (.imul, 1) := by decide +kernel
theorem dX7_year_54 : decode cX7_year 54 = .ok (.bipush 74, 2) := by decide +kernel
theorem dX7_year_56 : decode cX7_year 56 = .ok (.iadd, 1) := by decide +kernel
theorem dX7_year_57 : decode cX7_year 57 = .ok (.ldc 151, 2) := by decide +kernel
theorem dX7_year_59 : decode cX7_year 59 = .ok (.irem, 1) := by decide +kernel
theorem dX7_year_60 : decode cX7_year 60 = .ok (.istore 4, 2) := by decide +kernel
theorem dX7_year_62 : decode cX7_year 62 = .ok (.iload 4, 2) := by decide +kernel
theorem dX7_year_64 : decode cX7_year 64 = .ok (.bipush 6, 2) := by decide +kernel
theorem dX7_year_66 : decode cX7_year 66 = .ok (.irem, 1) := by decide +kernel
theorem dX7_year_67 : decode cX7_year 67 = .ok (.istore 6, 2) := by decide +kernel
theorem dX7_year_69 : decode cX7_year 69 = .ok (.iload 4, 2) := by decide +kernel
theorem dX7_year_71 : decode cX7_year 71 = .ok (.bipush 6, 2) := by decide +kernel
theorem dX7_year_73 : decode cX7_year 73 = .ok (.idiv, 1) := by decide +kernel
theorem dX7_year_74 : decode cX7_year 74 = .ok (.bipush 8, 2) := by decide +kernel
theorem dX7_year_76 : decode cX7_year 76 = .ok (.irem, 1) := by decide +kernel
theorem dX7_year_77 : decode cX7_year 77 = .ok (.tableswitch 110 0 4 #[35, 56, 70, 84, 97], 35) := by decide +kernel
theorem dX7_year_112 : decode cX7_year 112 = .ok (.aload_n 0, 1) := by decide +kernel
theorem dX7_year_113 : decode cX7_year 113 = .ok (.aload_n 0, 1) := by decide +kernel
theorem dX7_year_114 : decode cX7_year 114 = .ok (.iload 6, 2) := by decide +kernel
theorem dX7_year_116 : decode cX7_year 116 = .ok (.iload 4, 2) := by decide +kernel
theorem dX7_year_118 : decode cX7_year 118 = .ok (.bipush 48, 2) := by decide +kernel
theorem dX7_year_120 : decode cX7_year 120 = .ok (.idiv, 1) := by decide +kernel
theorem dX7_year_121 : decode cX7_year 121 = .ok (.bipush 25, 2) := by decide +kernel
theorem dX7_year_123 : decode cX7_year 123 = .ok (.irem, 1) := by decide +kernel
theorem dX7_year_124 : decode cX7_year 124 = .ok (.invokevirtual 114, 3) := by decide +kernel
theorem dX7_year_127 : decode cX7_year 127 = .ok (.putfield 102, 3) := by decide +kernel
theorem dX7_year_130 : decode cX7_year 130 = .ok (.goto 65, 3) := by decide +kernel
theorem dX7_year_133 : decode cX7_year 133 = .ok (.aload_n 0, 1) := by decide +kernel
theorem dX7_year_134 : decode cX7_year 134 = .ok (.aload_n 0, 1) := by decide +kernel
theorem dX7_year_135 : decode cX7_year 135 = .ok (.iload 6, 2) := by decide +kernel
theorem dX7_year_137 : decode cX7_year 137 = .ok (.iconst 1, 1) := by decide +kernel
theorem dX7_year_138 : decode cX7_year 138 = .ok (.invokevirtual 105, 3) := by decide +kernel
theorem dX7_year_141 : decode cX7_year 141 = .ok (.putfield 102, 3) := by decide +kernel
theorem dX7_year_144 : decode cX7_year 144 = .ok (.goto 51, 3) := by decide +kernel
theorem dX7_year_147 : decode cX7_year 147 = .ok (.aload_n 0, 1) := by decide +kernel
theorem dX7_year_148 : decode cX7_year 148 = .ok (.aload_n 0, 1) := by decide +kernel
theorem dX7_year_149 : decode cX7_year 149 = .ok (.iload 6, 2) := by decide +kernel
theorem dX7_year_151 : decode cX7_year 151 = .ok (.iconst (-1), 1) := by decide +kernel
theorem dX7_year_152 : decode cX7_year 152 = .ok (.invokevirtual 105, 3) := by decide +kernel
theorem dX7_year_155 : decode cX7_year 155 = .ok (.putfield 102, 3) := by decide +kernel
theorem dX7_year_158 : decode cX7_year 158 = .ok (.goto 37, 3) := by decide +kernel
theorem dX7_year_161 : decode cX7_year 161 = .ok (.aload_n 0, 1) := by decide +kernel
theorem dX7_year_162 : decode cX7_year 162 = .ok (.aload_n 0, 1) := by decide +kernel
theorem dX7_year_163 : decode cX7_year 163 = .ok (.iload 6, 2) := by decide +kernel
theorem dX7_year_165 : decode cX7_year 165 = .ok (.invokevirtual 108, 3) := by decide +kernel
theorem dX7_year_168 : decode cX7_year 168 = .ok (.putfield 102, 3) := by decide +kernel
theorem dX7_year_171 : decode cX7_year 171 = .ok (.goto 24, 3) := by decide +kernel
theorem dX7_year_174 : decode cX7_year 174 = .ok (.aload_n 0, 1) := by decide +kernel
theorem dX7_year_175 : decode cX7_year 175 = .ok (.aload_n 0, 1) := by decide +kernel
theorem dX7_year_176 : decode cX7_year 176 = .ok (.iload 6, 2) := by decide +kernel
theorem dX7_year_178 : decode cX7_year 178 = .ok (.invokevirtual 111, 3) := by decide +kernel
theorem dX7_year_181 : decode cX7_year 181 = .ok (.putfield 102, 3) := by decide +kernel
theorem dX7_year_184 : decode cX7_year 184 = .ok (.goto 11, 3) := by decide +kernel
theorem dX7_year_187 : decode cX7_year 187 = .ok (.aload_n 0, 1) := by decide +kernel
theorem dX7_year_188 : decode cX7_year 188 = .ok (.aload_n 0, 1) := by decide +kernel
theorem dX7_year_189 : decode cX7_year 189 = .ok (.invokevirtual 99, 3) := by decide +kernel
theorem dX7_year_192 : decode cX7_year 192 = .ok (.putfield 102, 3) := by decide +kernel
theorem dX7_year_195 : decode cX7_year 195 = .ok (.iinc 5 1, 3) := by decide +kernel
theorem dX7_year_198 : decode cX7_year 198 = .ok (.goto (-155), 3) := by decide +kernel
theorem dX7_year_201 : decode cX7_year 201 = .ok (.iconst 0, 1) := by decide +kernel
theorem dX7_year_202 : decode cX7_year 202 = .ok (.istore 5, 2) := by decide +kernel
theorem dX7_year_204 : decode cX7_year 204 = .ok (.iconst 0, 1) := by decide +kernel
theorem dX7_year_205 : decode cX7_year 205 = .ok (.istore 6, 2) := by decide +kernel
theorem dX7_year_207 : decode cX7_year 207 = .ok (.iload 6, 2) := by decide +kernel
theorem dX7_year_209 : decode cX7_year 209 = .ok (.bipush 6, 2) := by decide +kernel
theorem dX7_year_211 : decode cX7_year 211 = .ok (.if_icmp .ge 21, 3) := by decide +kernel
theorem dX7_year_214 : decode cX7_year 214 = .ok (.iload 5, 2) := by decide +kernel
theorem dX7_year_216 : decode cX7_year 216 = .ok (.aload_n 0, 1) := by decide +kernel
theorem dX7_year_217 : decode cX7_year 217 = .ok (.getfield 13, 3) := by decide +kernel
theorem dX7_year_220 : decode cX7_year 220 = .ok (.iload 6, 2) := by decide +kernel
theorem dX7_year_222 : decode cX7_year 222 = .ok (.iaload, 1) := by decide +kernel
theorem dX7_year_223 : decode cX7_year 223 = .ok (.iadd, 1) := by decide +kernel
theorem dX7_year_224 : decode cX7_year 224 = .ok (.istore 5, 2) := by decide +kernel
theorem dX7_year_226 : decode cX7_year 226 = .ok (.iinc 6 1, 3) := by decide +kernel
theorem dX7_year_229 : decode cX7_year 229 = .ok (.goto (-22), 3) := by decide +kernel
theorem dX7_year_232 : decode cX7_year 232 = .ok (.iload_n 3, 1) := by decide +kernel
theorem dX7_year_233 : decode cX7_year 233 = .ok (.ifCond .ne 16, 3) := by decide +kernel
theorem dX7_year_236 : decode cX7_year 236 = .ok (.aload_n 0, 1) := by decide +kernel
theorem dX7_year_237 : decode cX7_year 237 = .ok (.getfield 13, 3) := by decide +kernel
theorem dX7_year_240 : decode cX7_year 240 = .ok (.bipush 19, 2) := by decide +kernel
theorem dX7_year_242 : decode cX7_year 242 = .ok (.iaload, 1) := by decide +kernel
theorem dX7_year_243 : decode cX7_year 243 = .ok (.invokestatic 56, 3) := by decide +kernel
theorem dX7_year_246 : decode cX7_year 246 = .ok (.goto 23, 3) := by decide +kernel
theorem dX7_year_249 : decode cX7_year 249 = .ok (.iload_n 3, 1) := by decide +kernel
theorem dX7_year_250 : decode cX7_year 250 = .ok (.iconst 1, 1) := by decide +kernel
theorem dX7_year_251 : decode cX7_year 251 = .ok (.if_icmp .ne 16, 3) := by decide +kernel
theorem dX7_year_254 : decode cX7_year 254 = .ok (.aload_n 0, 1) := by decide +kernel
theorem dX7_year_255 : decode cX7_year 255 = .ok (.getfield 13, 3) := by decide +kernel
theorem dX7_year_258 : decode cX7_year 258 = .ok (.bipush 20, 2) := by decide +kernel
theorem dX7_year_260 : decode cX7_year 260 = .ok (.iaload, 1) := by decide +kernel
theorem dX7_year_261 : decode cX7_year 261 = .ok (.invokestatic 56, 3) := by decide +kernel
theorem dX7_year_264 : decode cX7_year 264 = .ok (.goto 5, 3) := by decide +kernel
theorem dX7_year_267 : decode cX7_year 267 = .ok (.iload 5, 2) := by decide +kernel
theorem dX7_year_269 : decode cX7_year 269 = .ok (.ireturn, 1) := by decide +kernel
theorem dX7_image_0 : decode cX7_image 0 = .ok (.iload_n 1, 1) := by decide +kernel
theorem dX7_image_1 : decode cX7_image 1 = .ok (.iconst 0, 1) := by decide +kernel
theorem dX7_image_2 : decode cX7_image 2 = .ok (.iconst 1, 1) := by decide +kernel
theorem dX7_image_3 : decode cX7_image 3 = .ok (.invokestatic 48, 3) := by decide +kernel
theorem dX7_image_6 : decode cX7_image 6 = .ok (.ifCond .ne 6, 3) := by decide +kernel
theorem dX7_image_9 : decode cX7_image 9 = .ok (.bipush (-2), 2) := by decide +kernel
theorem dX7_image_11 : decode cX7_image 11 = .ok (.ireturn, 1) := by decide +kernel
theorem dX7_image_12 : decode cX7_image 12 = .ok (.bipush 50, 2) := by decide +kernel
theorem dX7_image_14 : decode cX7_image 14 = .ok (.iload_n 1, 1) := by decide +kernel
theorem dX7_image_15 : decode cX7_image 15 = .ok (.imul, 1) := by decide +kernel
theorem dX7_image_16 : decode cX7_image 16 = .ok (.istore_n 2, 1) := by decide +kernel
theorem dX7_image_17 : decode cX7_image 17 = .ok (.iconst 0, 1) := by decide +kernel
theorem dX7_image_18 : decode cX7_image 18 = .ok (.istore_n 3, 1) := by decide +kernel
theorem dX7_image_19 : decode cX7_image 19 = .ok (.iload_n 3, 1) := by decide +kernel
theorem dX7_image_20 : decode cX7_image 20 = .ok (.bipush 22, 2) := by decide +kernel
theorem dX7_image_22 : decode cX7_image 22 = .ok (.if_icmp .ge 23, 3) := by decide +kernel
theorem dX7_image_25 : decode cX7_image 25 = .ok (.aload_n 0, 1) := by decide +kernel
theorem dX7_image_26 : decode cX7_image 26 = .ok (.getfield 42, 3) := by decide +kernel
theorem dX7_image_29 : decode cX7_image 29 = .ok (.iload_n 2, 1) := by decide +kernel
theorem dX7_image_30 : decode cX7_image 30 = .ok (.iload_n 3, 1) := by decide +kernel
theorem dX7_image_31 : decode cX7_image 31 = .ok (.iadd, 1) := by decide +kernel
theorem dX7_image_32 : decode cX7_image 32 = .ok (.aload_n 0, 1) := by decide +kernel
theorem dX7_image_33 : decode cX7_image 33 = .ok (.getfield 7, 3) := by decide +kernel
theorem dX7_image_36 : decode cX7_image 36 = .ok (.iload_n 3, 1) := by decide +kernel
theorem dX7_image_37 : decode cX7_image 37 = .ok (.iaload, 1) := by decide +kernel
theorem dX7_image_38 : decode cX7_image 38 = .ok (.iastore, 1) := by decide +kernel
theorem dX7_image_39 : decode cX7_image 39 = .ok (.iinc 3 1, 3) := by decide +kernel
theorem dX7_image_42 : decode cX7_image 42 = .ok (.goto (-23), 3) := by decide +kernel
theorem dX7_image_45 : decode cX7_image 45 = .ok (.iconst 0, 1) := by decide +kernel
theorem dX7_image_46 : decode cX7_image 46 = .ok (.istore_n 3, 1) := by decide +kernel
theorem dX7_image_47 : decode cX7_image 47 = .ok (.iload_n 3, 1) := by decide +kernel
theorem dX7_image_48 : decode cX7_image 48 = .ok (.bipush 16, 2) := by decide +kernel
theorem dX7_image_50 : decode cX7_image 50 = .ok (.if_icmp .ge 26, 3) := by decide +kernel
theorem dX7_image_53 : decode cX7_image 53 = .ok (.aload_n 0, 1) := by decide +kernel
theorem dX7_image_54 : decode cX7_image 54 = .ok (.getfield 42, 3) := by decide +kernel
theorem dX7_image_57 : decode cX7_image 57 = .ok (.iload_n 2, 1) := by decide +kernel
theorem dX7_image_58 : decode cX7_image 58 = .ok (.bipush 22, 2) := by decide +kernel
theorem dX7_image_60 : decode cX7_image 60 = .ok (.iadd, 1) := by decide +kernel
theorem dX7_image_61 : decode cX7_image 61 = .ok (.iload_n 3, 1) := by decide +kernel
theorem dX7_image_62 : decode cX7_image 62 = .ok (.iadd, 1) := by decide +kernel
theorem dX7_image_63 : decode cX7_image 63 = .ok (.aload_n 0, 1) := by decide +kernel
theorem dX7_image_64 : decode cX7_image 64 = .ok (.getfield 20, 3) := by decide +kernel
theorem dX7_image_67 : decode cX7_image 67 = .ok (.iload_n 3, 1) := by decide +kernel
theorem dX7_image_68 : decode cX7_image 68 = .ok (.iaload, 1) := by decide +kernel
theorem dX7_image_69 : decode cX7_image 69 = .ok (.iastore, 1) := by decide +kernel
theorem dX7_image_70 : decode cX7_image 70 = .ok (.iinc 3 1, 3) := by decide +kernel
theorem dX7_image_73 : decode cX7_image 73 = .ok (.goto (-26), 3) := by decide +kernel
theorem dX7_image_76 : decode cX7_image 76 = .ok (.aload_n 0, 1) := by decide +kernel
theorem dX7_image_77 : decode cX7_image 77 = .ok (.getfield 42, 3) := by decide +kernel
theorem dX7_image_80 : decode cX7_image 80 = .ok (.iload_n 2, 1) := by decide +kernel
theorem dX7_image_81 : decode cX7_image 81 = .ok (.bipush 45, 2) := by decide +kernel
theorem dX7_image_83 : decode cX7_image 83 = .ok (.iadd, 1) := by decide +kernel
theorem dX7_image_84 : decode cX7_image 84 = .ok (.aload_n 0, 1) := by decide +kernel
theorem dX7_image_85 : decode cX7_image 85 = .ok (.getfield 16, 3) := by decide +kernel
theorem dX7_image_88 : decode cX7_image 88 = .ok (.iastore, 1) := by decide +kernel
theorem dX7_image_89 : decode cX7_image 89 = .ok (.aload_n 0, 1) := by decide +kernel
theorem dX7_image_90 : decode cX7_image 90 = .ok (.getfield 42, 3) := by decide +kernel
theorem dX7_image_93 : decode cX7_image 93 = .ok (.iload_n 2, 1) := by decide +kernel
theorem dX7_image_94 : decode cX7_image 94 = .ok (.bipush 46, 2) := by decide +kernel
theorem dX7_image_96 : decode cX7_image 96 = .ok (.iadd, 1) := by decide +kernel
theorem dX7_image_97 : decode cX7_image 97 = .ok (.aload_n 0, 1) := by decide +kernel
theorem dX7_image_98 : decode cX7_image 98 = .ok (.getfield 131, 3) := by decide +kernel
theorem dX7_image_101 : decode cX7_image 101 = .ok (.iastore, 1) := by decide +kernel
theorem dX7_image_102 : decode cX7_image 102 = .ok (.aload_n 0, 1) := by decide +kernel
theorem dX7_image_103 : decode cX7_image 103 = .ok (.getfield 45, 3) := by decide +kernel
theorem dX7_image_106 : decode cX7_image 106 = .ok (.iload_n 1, 1) := by decide +kernel
theorem dX7_image_107 : decode cX7_image 107 = .ok (.iconst 1, 1) := by decide +kernel
theorem dX7_image_108 : decode cX7_image 108 = .ok (.bastore, 1) := by decide +kernel
theorem dX7_image_109 : decode cX7_image 109 = .ok (.iconst 1, 1) := by decide +kernel
theorem dX7_image_110 : decode cX7_image 110 = .ok (.ireturn, 1) := by decide +kernel
theorem dX7_restore_0 : decode cX7_restore 0 = .ok (.iload_n 1, 1) := by decide +kernel
theorem dX7_restore_1 : decode cX7_restore 1 = .ok (.iconst 0, 1) := by decide +kernel
theorem dX7_restore_2 : decode cX7_restore 2 = .ok (.iconst 1, 1) := by decide +kernel
theorem dX7_restore_3 : decode cX7_restore 3 = .ok (.invokestatic 48, 3) := by decide +kernel
theorem dX7_restore_6 : decode cX7_restore 6 = .ok (.ifCond .ne 6, 3) := by decide +kernel
theorem dX7_restore_9 : decode cX7_restore 9 = .ok (.bipush (-2), 2) := by decide +kernel
theorem dX7_restore_11 : decode cX7_restore 11 = .ok (.ireturn, 1) := by decide +kernel
theorem dX7_restore_12 : decode cX7_restore 12 = .ok (.aload_n 0, 1) := by decide +kernel
theorem dX7_restore_13 : decode cX7_restore 13 = .ok (.getfield 45, 3) := by decide +kernel
theorem dX7_restore_16 : decode cX7_restore 16 = .ok (.iload_n 1, 1) := by decide +kernel
theorem dX7_restore_17 : decode cX7_restore 17 = .ok (.baload, 1) := by decide +kernel
theorem dX7_restore_18 : decode cX7_restore 18 = .ok (.ifCond .ne 6, 3) := by decide +kernel
theorem dX7_restore_21 : decode cX7_restore 21 = .ok (.bipush (-3), 2) := by decide +kernel
theorem dX7_restore_23 : decode cX7_restore 23 = .ok (.ireturn, 1) := by decide +kernel
theorem dX7_restore_24 : decode cX7_restore 24 = .ok (.bipush 50, 2) := by decide +kernel
theorem dX7_restore_26 : decode cX7_restore 26 = .ok (.iload_n 1, 1) := by decide +kernel
theorem dX7_restore_27 : decode cX7_restore 27 = .ok (.imul, 1) := by decide +kernel
theorem dX7_restore_28 : decode cX7_restore 28 = .ok (.istore_n 2, 1) := by decide +kernel
theorem dX7_restore_29 : decode cX7_restore 29 = .ok (.iconst 0, 1) := by decide +kernel
theorem dX7_restore_30 : decode cX7_restore 30 = .ok (.istore_n 3, 1) := by decide +kernel
theorem dX7_restore_31 : decode cX7_restore 31 = .ok (.iload_n 3, 1) := by decide +kernel
theorem dX7_restore_32 : decode cX7_restore 32 = .ok (.bipush 22, 2) := by decide +kernel
theorem dX7_restore_34 : decode cX7_restore 34 = .ok (.if_icmp .ge 23, 3) := by decide +kernel
theorem dX7_restore_37 : decode cX7_restore 37 = .ok (.aload_n 0, 1) := by decide +kernel
theorem dX7_restore_38 : decode cX7_restore 38 = .ok (.getfield 7, 3) := by decide +kernel
theorem dX7_restore_41 : decode cX7_restore 41 = .ok (.iload_n 3, 1) := by decide +kernel
theorem dX7_restore_42 : decode cX7_restore 42 = .ok (.aload_n 0, 1) := by decide +kernel
theorem dX7_restore_43 : decode cX7_restore 43 = .ok (.getfield 42, 3) := by decide +kernel
theorem dX7_restore_46 : decode cX7_restore 46 = .ok (.iload_n 2, 1) := by decide +kernel
theorem dX7_restore_47 : decode cX7_restore 47 = .ok (.iload_n 3, 1) := by decide +kernel
theorem dX7_restore_48 : decode cX7_restore 48 = .ok (.iadd, 1) := by decide +kernel
theorem dX7_restore_49 : decode cX7_restore 49 = .ok (.iaload, 1) := by decide +kernel
theorem dX7_restore_50 : decode cX7_restore 50 = .ok (.iastore, 1) := by decide +kernel
theorem dX7_restore_51 : decode cX7_restore 51 = .ok (.iinc 3 1, 3) := by decide +kernel
theorem dX7_restore_54 : decode cX7_restore 54 = .ok (.goto (-23), 3) := by decide +kernel
theorem dX7_restore_57 : decode cX7_restore 57 = .ok (.iconst 0, 1) := by decide +kernel
theorem dX7_restore_58 : decode cX7_restore 58 = .ok (.istore_n 3, 1) := by decide +kernel
theorem dX7_restore_59 : decode cX7_restore 59 = .ok (.iload_n 3, 1) := by decide +kernel
theorem dX7_restore_60 : decode cX7_restore 60 = .ok (.bipush 16, 2) := by decide +kernel
theorem dX7_restore_62 : decode cX7_restore 62 = .ok (.if_icmp .ge 26, 3) := by decide +kernel
theorem dX7_restore_65 : decode cX7_restore 65 = .ok (.aload_n 0, 1) := by decide +kernel
theorem dX7_restore_66 : decode cX7_restore 66 = .ok (.getfield 20, 3) := by decide +kernel
theorem dX7_restore_69 : decode cX7_restore 69 = .ok (.iload_n 3, 1) := by decide +kernel
theorem dX7_restore_70 : decode cX7_restore 70 = .ok (.aload_n 0, 1) := by decide +kernel
theorem dX7_restore_71 : decode cX7_restore 71 = .ok (.getfield 42, 3) := by decide +kernel
theorem dX7_restore_74 : decode cX7_restore 74 = .ok (.iload_n 2, 1) := by decide +kernel
theorem dX7_restore_75 : decode cX7_restore 75 = .ok (.bipush 22, 2) := by decide +kernel
theorem dX7_restore_77 : decode cX7_restore 77 = .ok (.iadd, 1) := by decide +kernel
theorem dX7_restore_78 : decode cX7_restore 78 = .ok (.iload_n 3, 1) := by decide +kernel
theorem dX7_restore_79 : decode cX7_restore 79 = .ok (.iadd, 1) := by decide +kernel
theorem dX7_restore_80 : decode cX7_restore 80 = .ok (.iaload, 1) := by decide +kernel
theorem dX7_restore_81 : decode cX7_restore 81 = .ok (.iastore, 1) := by decide +kernel
theorem dX7_restore_82 : decode cX7_restore 82 = .ok (.iinc 3 1, 3) := by decide +kernel
theorem dX7_restore_85 : decode cX7_restore 85 = .ok (.goto (-26), 3) := by decide +kernel
theorem dX7_restore_88 : decode cX7_restore 88 = .ok (.aload_n 0, 1) := by decide +kernel
theorem dX7_restore_89 : decode cX7_restore 89 = .ok (.aload_n 0, 1) := by decide +kernel
theorem dX7_restore_90 : decode cX7_restore 90 = .ok (.getfield 42, 3) := by decide +kernel
theorem dX7_restore_93 : decode cX7_restore 93 = .ok (.iload_n 2, 1) := by decide +kernel
theorem dX7_restore_94 : decode cX7_restore 94 = .ok (.bipush 45, 2) := by decide +kernel
theorem dX7_restore_96 : decode cX7_restore 96 = .ok (.iadd, 1) := by decide +kernel
theorem dX7_restore_97 : decode cX7_restore 97 = .ok (.iaload, 1) := by decide +kernel
theorem dX7_restore_98 : decode cX7_restore 98 = .ok (.putfield 16, 3) := by decide +kernel
theorem dX7_restore_101 : decode cX7_restore 101 = .ok (.aload_n 0, 1) := by decide +kernel
theorem dX7_restore_102 : decode cX7_restore 102 = .ok (.aload_n 0, 1) := by decide +kernel
theorem dX7_restore_103 : decode cX7_restore 103 = .ok (.getfield 42, 3) := by decide +kernel
theorem dX7_restore_106 : decode cX7_restore 106 = .ok (.iload_n 2, 1) := by decide +kernel
theorem dX7_restore_107 : decode cX7_restore 107 = .ok (.bipush 46, 2) := by decide +kernel
theorem dX7_restore_109 : decode cX7_restore 109 = .ok (.iadd, 1) := by decide +kernel
theorem dX7_restore_110 : decode cX7_restore 110 = .ok (.iaload, 1) := by decide +kernel
theorem dX7_restore_111 : decode cX7_restore 111 = .ok (.putfield 131, 3) := by decide +kernel
theorem dX7_restore_114 : decode cX7_restore 114 = .ok (.iconst 1, 1) := by decide +kernel
theorem dX7_restore_115 : decode cX7_restore 115 = .ok (.ireturn, 1) := by decide +kernel
theorem dX7_told_0 : decode cX7_told 0 = .ok (.iload_n 1, 1) := by decide +kernel
theorem dX7_told_1 : decode cX7_told 1 = .ok (.bipush 10, 2) := by decide +kernel
theorem dX7_told_3 : decode cX7_told 3 = .ok (.if_icmp .lt 69, 3) := by decide +kernel
theorem dX7_told_6 : decode cX7_told 6 = .ok (.iload_n 1, 1) := by decide +kernel
theorem dX7_told_7 : decode cX7_told 7 = .ok (.bipush 10, 2) := by decide +kernel
theorem dX7_told_9 : decode cX7_told 9 = .ok (.irem, 1) := by decide +kernel
theorem dX7_told_10 : decode cX7_told 10 = .ok (.istore_n 2, 1) := by decide +kernel
theorem dX7_told_11 : decode cX7_told 11 = .ok (.iload_n 1, 1) := by decide +kernel
theorem dX7_told_12 : decode cX7_told 12 = .ok (.bipush 39, 2) := by decide +kernel
theorem dX7_told_14 : decode cX7_told 14 = .ok (.if_icmp .gt 10, 3) := by decide +kernel
theorem dX7_told_17 : decode cX7_told 17 = .ok (.iload_n 2, 1) := by decide +kernel
theorem dX7_told_18 : decode cX7_told 18 = .ok (.invokestatic 52, 3) := by decide +kernel
theorem dX7_told_21 : decode cX7_told 21 = .ok (.ifCond .ne 8, 3) := by decide +kernel
theorem dX7_told_24 : decode cX7_told 24 = .ok (.bipush (-2), 2) := by decide +kernel
theorem dX7_told_26 : decode cX7_told 26 = .ok (.goto 45, 3) := by decide +kernel
theorem dX7_told_29 : decode cX7_told 29 = .ok (.iload_n 1, 1) := by decide +kernel
theorem dX7_told_30 : decode cX7_told 30 = .ok (.bipush 20, 2) := by decide +kernel
theorem dX7_told_32 : decode cX7_told 32 = .ok (.if_icmp .ge 15, 3) := by decide +kernel
theorem dX7_told_35 : decode cX7_told 35 = .ok (.aload_n 0, 1) := by decide +kernel
theorem dX7_told_36 : decode cX7_told 36 = .ok (.getfield 7, 3) := by decide +kernel
theorem dX7_told_39 : decode cX7_told 39 = .ok (.bipush 12, 2) := by decide +kernel
theorem dX7_told_41 : decode cX7_told 41 = .ok (.iload_n 2, 1) := by decide +kernel
theorem dX7_told_42 : decode cX7_told 42 = .ok (.iadd, 1) := by decide +kernel
theorem dX7_told_43 : decode cX7_told 43 = .ok (.iaload, 1) := by decide +kernel
theorem dX7_told_44 : decode cX7_told 44 = .ok (.goto 27, 3) := by decide +kernel
theorem dX7_told_47 : decode cX7_told 47 = .ok (.iload_n 1, 1) := by decide +kernel
theorem dX7_told_48 : decode cX7_told 48 = .ok (.bipush 30, 2) := by decide +kernel
theorem dX7_told_50 : decode cX7_told 50 = .ok (.if_icmp .ge 12, 3) := by decide +kernel
theorem dX7_told_53 : decode cX7_told 53 = .ok (.aload_n 0, 1) := by decide +kernel
theorem dX7_told_54 : decode cX7_told 54 = .ok (.getfield 7, 3) := by decide +kernel
theorem dX7_told_57 : decode cX7_told 57 = .ok (.iload_n 2, 1) := by decide +kernel
theorem dX7_told_58 : decode cX7_told 58 = .ok (.iaload, 1) := by decide +kernel
theorem dX7_told_59 : decode cX7_told 59 = .ok (.goto 12, 3) := by decide +kernel
theorem dX7_told_62 : decode cX7_told 62 = .ok (.aload_n 0, 1) := by decide +kernel
theorem dX7_told_63 : decode cX7_told 63 = .ok (.getfield 7, 3) := by decide +kernel
theorem dX7_told_66 : decode cX7_told 66 = .ok (.bipush 6, 2) := by decide +kernel
theorem dX7_told_68 : decode cX7_told 68 = .ok (.iload_n 2, 1) := by decide +kernel
theorem dX7_told_69 : decode cX7_told 69 = .ok (.iadd, 1) := by decide +kernel
theorem dX7_told_70 : decode cX7_told 70 = .ok (.iaload, 1) := by decide +kernel
theorem dX7_told_71 : decode cX7_told 71 = .ok (.ireturn, 1) := by decide +kernel
theorem dX7_told_72 : decode cX7_told 72 = .ok (.iload_n 1, 1) := by decide +kernel
theorem dX7_told_73 : decode cX7_told 73 = .ok (.tableswitch 81 0 5 #[39, 44, 49, 57, 65, 73], 39) := by decide +kernel
theorem dX7_told_112 : decode cX7_told 112 = .ok (.aload_n 0, 1) := by decide +kernel
theorem dX7_told_113 : decode cX7_told 113 = .ok (.getfield 60, 3) := by decide +kernel
theorem dX7_told_116 : decode cX7_told 116 = .ok (.ireturn, 1) := by decide +kernel
theorem dX7_told_117 : decode cX7_told 117 = .ok (.aload_n 0, 1) := by decide +kernel
theorem dX7_told_118 : decode cX7_told 118 = .ok (.getfield 16, 3) := by decide +kernel
theorem dX7_told_121 : decode cX7_told 121 = .ok (.ireturn, 1) := by decide +kernel
theorem dX7_told_122 : decode cX7_told 122 = .ok (.aload_n 0, 1) := by decide +kernel
theorem dX7_told_123 : decode cX7_told 123 = .ok (.getfield 7, 3) := by decide +kernel
theorem dX7_told_126 : decode cX7_told 126 = .ok (.bipush 19, 2) := by decide +kernel
theorem dX7_told_128 : decode cX7_told 128 = .ok (.iaload, 1) := by decide +kernel
theorem dX7_told_129 : decode cX7_told 129 = .ok (.ireturn, 1) := by decide +kernel
theorem dX7_told_130 : decode cX7_told 130 = .ok (.aload_n 0, 1) := by decide +kernel
theorem dX7_told_131 : decode cX7_told 131 = .ok (.getfield 7, 3) := by decide +kernel
theorem dX7_told_134 : decode cX7_told 134 = .ok (.bipush 20, 2) := by decide +kernel
theorem dX7_told_136 : decode cX7_told 136 = .ok (.iaload, 1) := by decide +kernel
theorem dX7_told_137 : decode cX7_told 137 = .ok (.ireturn, 1) := by decide +kernel
theorem dX7_told_138 : decode cX7_told 138 = .ok (.aload_n 0, 1) := by decide +kernel
theorem dX7_told_139 : decode cX7_told 139 = .ok (.getfield 7, 3) := by decide +kernel
theorem dX7_told_142 : decode cX7_told 142 = .ok (.bipush 18, 2) := by decide +kernel
theorem dX7_told_144 : decode cX7_told 144 = .ok (.iaload, 1) := by decide +kernel
theorem dX7_told_145 : decode cX7_told 145 = .ok (.ireturn, 1) := by decide +kernel
theorem dX7_told_146 : decode cX7_told 146 = .ok (.aload_n 0, 1) := by decide +kernel
theorem dX7_told_147 : decode cX7_told 147 = .ok (.getfield 7, 3) := by decide +kernel
theorem dX7_told_150 : decode cX7_told 150 = .ok (.bipush 21, 2) := by decide +kernel
theorem dX7_told_152 : decode cX7_told 152 = .ok (.iaload, 1) := by decide +kernel
theorem dX7_told_153 : decode cX7_told 153 = .ok (.ireturn, 1) := by decide +kernel
theorem dX7_told_154 : decode cX7_told 154 = .ok (.iload_n 1, 1) := by decide +kernel
theorem dX7_told_155 : decode cX7_told 155 = .ok (.bipush 6, 2) := by decide +kernel
theorem dX7_told_157 : decode cX7_told 157 = .ok (.if_icmp .ne 10, 3) := by decide +kernel
theorem dX7_told_160 : decode cX7_told 160 = .ok (.aload_n 0, 1) := by decide +kernel
theorem dX7_told_161 : decode cX7_told 161 = .ok (.getfield 131, 3) := by decide +kernel
theorem dX7_told_164 : decode cX7_told 164 = .ok (.goto 5, 3) := by decide +kernel
theorem dX7_told_167 : decode cX7_told 167 = .ok (.bipush (-2), 2) := by decide +kernel
theorem dX7_told_169 : decode cX7_told 169 = .ok (.ireturn, 1) := by decide +kernel
theorem dL_law_0 : decode cL_law 0 = .ok (.new 7, 3) := by decide +kernel
theorem dL_law_3 : decode cL_law 3 = .ok (.dup, 1) := by decide +kernel
theorem dL_law_4 : decode cL_law 4 = .ok (.invokespecial 9, 3) := by decide +kernel
theorem dL_law_7 : decode cL_law 7 = .ok (.astore_n 1, 1) := by decide +kernel
theorem dL_law_8 : decode cL_law 8 = .ok (.new 10, 3) := by decide +kernel
theorem dL_law_11 : decode cL_law 11 = .ok (.dup, 1) := by decide +kernel
theorem dL_law_12 : decode cL_law 12 = .ok (.invokespecial 12, 3) := by decide +kernel
theorem dL_law_15 : decode cL_law 15 = .ok (.astore_n 2, 1) := by decide +kernel
theorem dL_law_16 : decode cL_law 16 = .ok (.iconst 0, 1) := by decide +kernel
theorem dL_law_17 : decode cL_law 17 = .ok (.istore_n 3, 1) := by decide +kernel
theorem dL_law_18 : decode cL_law 18 = .ok (.iload_n 3, 1) := by decide +kernel
theorem dL_law_19 : decode cL_law 19 = .ok (.aload_n 0, 1) := by decide +kernel
theorem dL_law_20 : decode cL_law 20 = .ok (.arraylength, 1) := by decide +kernel
theorem dL_law_21 : decode cL_law 21 = .ok (.bipush 7, 2) := by decide +kernel
theorem dL_law_23 : decode cL_law 23 = .ok (.isub, 1) := by decide +kernel
theorem dL_law_24 : decode cL_law 24 = .ok (.if_icmp .gt 854, 3) := by decide +kernel
theorem dL_law_27 : decode cL_law 27 = .ok (.aload_n 0, 1) := by decide +kernel
theorem dL_law_28 : decode cL_law 28 = .ok (.iload_n 3, 1) := by decide +kernel
theorem dL_law_29 : decode cL_law 29 = .ok (.iaload, 1) := by decide +kernel
theorem dL_law_30 : decode cL_law 30 = .ok (.bipush 31, 2) := by decide +kernel
theorem dL_law_32 : decode cL_law 32 = .ok (.iand, 1) := by decide +kernel
theorem dL_law_33 : decode cL_law 33 = .ok (.tableswitch 839 0 22 #[107, 160, 183, 206, 219, 232, 255, 268, 301, 324, 347, 390, 473, 548, 581, 594, 617, 640, 673, 727, 770, 793, 816], 107) := by decide +kernel
theorem dL_law_140 : decode cL_law 140 = .ok (.aload_n 1, 1) := by decide +kernel
theorem dL_law_141 : decode cL_law 141 = .ok (.aload_n 0, 1) := by decide +kernel
theorem dL_law_142 : decode cL_law 142 = .ok (.iload_n 3, 1) := by decide +kernel
theorem dL_law_143 : decode cL_law 143 = .ok (.iconst 1, 1) := by decide +kernel
theorem dL_law_144 : decode cL_law 144 = .ok (.iadd, 1) := by decide +kernel
theorem dL_law_145 : decode cL_law 145 = .ok (.iaload, 1) := by decide +kernel
theorem dL_law_146 : decode cL_law 146 = .ok (.aload_n 0, 1) := by decide +kernel
theorem dL_law_147 : decode cL_law 147 = .ok (.iload_n 3, 1) := by decide +kernel
theorem dL_law_148 : decode cL_law 148 = .ok (.iconst 2, 1) := by decide +kernel
theorem dL_law_149 : decode cL_law 149 = .ok (.iadd, 1) := by decide +kernel
theorem dL_law_150 : decode cL_law 150 = .ok (.iaload, 1) := by decide +kernel
theorem dL_law_151 : decode cL_law 151 = .ok (.aload_n 0, 1) := by decide +kernel
theorem dL_law_152 : decode cL_law 152 = .ok (.iload_n 3, 1) := by decide +kernel
theorem dL_law_153 : decode cL_law 153 = .ok (.iconst 3, 1) := by decide +kernel
theorem dL_law_154 : decode cL_law 154 = .ok (.iadd, 1) := by decide +kernel
theorem dL_law_155 : decode cL_law 155 = .ok (.iaload, 1) := by decide +kernel
theorem dL_law_156 : decode cL_law 156 = .ok (.aload_n 0, 1) := by decide +kernel
theorem dL_law_157 : decode cL_law 157 = .ok (.iload_n 3, 1) := by decide +kernel
theorem dL_law_158 : decode cL_law 158 = .ok (.iconst 4, 1) := by decide +kernel
theorem dL_law_159 : decode cL_law 159 = .ok (.iadd, 1) := by decide +kernel
theorem dL_law_160 : decode cL_law 160 = .ok (.iaload, 1) := by decide +kernel
theorem dL_law_161 : decode cL_law 161 = .ok (.invokevirtual 13, 3) := by decide +kernel
theorem dL_law_164 : decode cL_law 164 = .ok (.aload_n 2, 1) := by decide +kernel
theorem dL_law_165 : decode cL_law 165 = .ok (.aload_n 0, 1) := by decide +kernel
theorem dL_law_166 : decode cL_law 166 = .ok (.iload_n 3, 1) := by decide +kernel
theorem dL_law_167 : decode cL_law 167 = .ok (.iconst 1, 1) := by decide +kernel
theorem dL_law_168 : decode cL_law 168 = .ok (.iadd, 1) := by decide +kernel
theorem dL_law_169 : decode cL_law 169 = .ok (.iaload, 1) := by decide +kernel
theorem dL_law_170 : decode cL_law 170 = .ok (.aload_n 0, 1) := by decide +kernel
theorem dL_law_171 : decode cL_law 171 = .ok (.iload_n 3, 1) := by decide +kernel
theorem dL_law_172 : decode cL_law 172 = .ok (.iconst 2, 1) := by decide +kernel
theorem dL_law_173 : decode cL_law 173 = .ok (.iadd, 1) := by decide +kernel
theorem dL_law_174 : decode cL_law 174 = .ok (.iaload, 1) := by decide +kernel
theorem dL_law_175 : decode cL_law 175 = .ok (.aload_n 0, 1) := by decide +kernel
theorem dL_law_176 : decode cL_law 176 = .ok (.iload_n 3, 1) := by decide +kernel
theorem dL_law_177 : decode cL_law 177 = .ok (.iconst 3, 1) := by decide +kernel
theorem dL_law_178 : decode cL_law 178 = .ok (.iadd, 1) := by decide +kernel
theorem dL_law_179 : decode cL_law 179 = .ok (.iaload, 1) := by decide +kernel
theorem dL_law_180 : decode cL_law 180 = .ok (.aload_n 0, 1) := by decide +kernel
theorem dL_law_181 : decode cL_law 181 = .ok (.iload_n 3, 1) := by decide +kernel
theorem dL_law_182 : decode cL_law 182 = .ok (.iconst 4, 1) := by decide +kernel
theorem dL_law_183 : decode cL_law 183 = .ok (.iadd, 1) := by decide +kernel
theorem dL_law_184 : decode cL_law 184 = .ok (.iaload, 1) := by decide +kernel
theorem dL_law_185 : decode cL_law 185 = .ok (.invokevirtual 17, 3) := by decide +kernel
theorem dL_law_188 : decode cL_law 188 = .ok (.if_icmp .eq 684, 3) := by decide +kernel
theorem dL_law_191 : decode cL_law 191 = .ok (.iconst 0, 1) := by decide +kernel
theorem dL_law_192 : decode cL_law 192 = .ok (.ireturn, 1) := by decide +kernel
theorem dL_law_193 : decode cL_law 193 = .ok (.aload_n 1, 1) := by decide +kernel
theorem dL_law_194 : decode cL_law 194 = .ok (.aload_n 0, 1) := by decide +kernel
theorem dL_law_195 : decode cL_law 195 = .ok (.iload_n 3, 1) := by decide +kernel
theorem dL_law_196 : decode cL_law 196 = .ok (.iconst 1, 1) := by decide +kernel
theorem dL_law_197 : decode cL_law 197 = .ok (.iadd, 1) := by decide +kernel
theorem dL_law_198 : decode cL_law 198 = .ok (.iaload, 1) := by decide +kernel
theorem dL_law_199 : decode cL_law 199 = .ok (.invokevirtual 18, 3) := by decide +kernel
theorem dL_law_202 : decode cL_law 202 = .ok (.aload_n 2, 1) := by decide +kernel
theorem dL_law_203 : decode cL_law 203 = .ok (.aload_n 0, 1) := by decide +kernel
theorem dL_law_204 : decode cL_law 204 = .ok (.iload_n 3, 1) := by decide +kernel
theorem dL_law_205 : decode cL_law 205 = .ok (.iconst 1, 1) := by decide +kernel
theorem dL_law_206 : decode cL_law 206 = .ok (.iadd, 1) := by decide +kernel
theorem dL_law_207 : decode cL_law 207 = .ok (.iaload, 1) := by decide +kernel
theorem dL_law_208 : decode cL_law 208 = .ok (.invokevirtual 22, 3) := by decide +kernel
theorem dL_law_211 : decode cL_law 211 = .ok (.if_icmp .eq 661, 3) := by decide +kernel
theorem dL_law_214 : decode cL_law 214 = .ok (.iconst 0, 1) := by decide +kernel
theorem dL_law_215 : decode cL_law 215 = .ok (.ireturn, 1) := by decide +kernel
theorem dL_law_216 : decode cL_law 216 = .ok (.aload_n 1, 1) := by decide +kernel
theorem dL_law_217 : decode cL_law 217 = .ok (.aload_n 0, 1) := by decide +kernel
theorem dL_law_218 : decode cL_law 218 = .ok (.iload_n 3, 1) := by decide +kernel
theorem dL_law_219 : decode cL_law 219 = .ok (.iconst 1, 1) := by decide +kernel
theorem dL_law_220 : decode cL_law 220 = .ok (.iadd, 1) := by decide +kernel
theorem dL_law_221 : decode cL_law 221 = .ok (.iaload, 1) := by decide +kernel
theorem dL_law_222 : decode cL_law 222 = .ok (.invokevirtual 23, 3) := by decide +kernel
theorem dL_law_225 : decode cL_law 225 = .ok (.aload_n 2, 1) := by decide +kernel
theorem dL_law_226 : decode cL_law 226 = .ok (.aload_n 0, 1) := by decide +kernel
theorem dL_law_227 : decode cL_law 227 = .ok (.iload_n 3, 1) := by decide +kernel
theorem dL_law_228 : decode cL_law 228 = .ok (.iconst 1, 1) := by decide +kernel
theorem dL_law_229 : decode cL_law 229 = .ok (.iadd, 1) := by decide +kernel
theorem dL_law_230 : decode cL_law 230 = .ok (.iaload, 1) := by decide +kernel
theorem dL_law_231 : decode cL_law 231 = .ok (.invokevirtual 26, 3) := by decide +kernel
theorem dL_law_234 : decode cL_law 234 = .ok (.if_icmp .eq 638, 3) := by decide +kernel
theorem dL_law_237 : decode cL_law 237 = .ok (.iconst 0, 1) := by decide +kernel
theorem dL_law_238 : decode cL_law 238 = .ok (.ireturn, 1) := by decide +kernel
theorem dL_law_239 : decode cL_law 239 = .ok (.aload_n 1, 1) := by decide +kernel
theorem dL_law_240 : decode cL_law 240 = .ok (.invokevirtual 27, 3) := by decide +kernel
theorem dL_law_243 : decode cL_law 243 = .ok (.aload_n 2, 1) := by decide +kernel
theorem dL_law_244 : decode cL_law 244 = .ok (.invokevirtual 31, 3) := by decide +kernel
theorem dL_law_247 : decode cL_law 247 = .ok (.if_icmp .eq 625, 3) := by decide +kernel
theorem dL_law_250 : decode cL_law 250 = .ok (.iconst 0, 1) := by decide +kernel
theorem dL_law_251 : decode cL_law 251 = .ok (.ireturn, 1) := by decide +kernel
theorem dL_law_252 : decode cL_law 252 = .ok (.aload_n 1, 1) := by decide +kernel
theorem dL_law_253 : decode cL_law 253 = .ok (.invokevirtual 32, 3) := by decide +kernel
theorem dL_law_256 : decode cL_law 256 = .ok (.aload_n 2, 1) := by decide +kernel
theorem dL_law_257 : decode cL_law 257 = .ok (.invokevirtual 35, 3) := by decide +kernel
theorem dL_law_260 : decode cL_law 260 = .ok (.if_icmp .eq 612, 3) := by decide +kernel
theorem dL_law_263 : decode cL_law 263 = .ok (.iconst 0, 1) := by decide +kernel
theorem dL_law_264 : decode cL_law 264 = .ok (.ireturn, 1) := by decide +kernel
theorem dL_law_265 : decode cL_law 265 = .ok (.aload_n 1, 1) := by decide +kernel
theorem dL_law_266 : decode cL_law 266 = .ok (.aload_n 0, 1) := by decide +kernel
theorem dL_law_267 : decode cL_law 267 = .ok (.iload_n 3, 1) := by decide +kernel
theorem dL_law_268 : decode cL_law 268 = .ok (.iconst 1, 1) := by decide +kernel
theorem dL_law_269 : decode cL_law 269 = .ok (.iadd, 1) := by decide +kernel
theorem dL_law_270 : decode cL_law 270 = .ok (.iaload, 1) := by decide +kernel
theorem dL_law_271 : decode cL_law 271 = .ok (.invokevirtual 36, 3) := by decide +kernel
theorem dL_law_274 : decode cL_law 274 = .ok (.aload_n 2, 1) := by decide +kernel
theorem dL_law_275 : decode cL_law 275 = .ok (.aload_n 0, 1) := by decide +kernel
theorem dL_law_276 : decode cL_law 276 = .ok (.iload_n 3, 1) := by decide +kernel
theorem dL_law_277 : decode cL_law 277 = .ok (.iconst 1, 1) := by decide +kernel
theorem dL_law_278 : decode cL_law 278 = .ok (.iadd, 1) := by decide +kernel
theorem dL_law_279 : decode cL_law 279 = .ok (.iaload, 1) := by decide +kernel
theorem dL_law_280 : decode cL_law 280 = .ok (.invokevirtual 39, 3) := by decide +kernel
theorem dL_law_283 : decode cL_law 283 = .ok (.if_icmp .eq 589, 3) := by decide +kernel
theorem dL_law_286 : decode cL_law 286 = .ok (.iconst 0, 1) := by decide +kernel
theorem dL_law_287 : decode cL_law 287 = .ok (.ireturn, 1) := by decide +kernel
theorem dL_law_288 : decode cL_law 288 = .ok (.aload_n 1, 1) := by decide +kernel
theorem dL_law_289 : decode cL_law 289 = .ok (.invokevirtual 40, 3) := by decide +kernel
theorem dL_law_292 : decode cL_law 292 = .ok (.aload_n 2, 1) := by decide +kernel
theorem dL_law_293 : decode cL_law 293 = .ok (.invokevirtual 43, 3) := by decide +kernel
theorem dL_law_296 : decode cL_law 296 = .ok (.if_icmp .eq 576, 3) := by decide +kernel
theorem dL_law_299 : decode cL_law 299 = .ok (.iconst 0, 1) := by decide +kernel
theorem dL_law_300 : decode cL_law 300 = .ok (.ireturn, 1) := by decide +kernel
theorem dL_law_301 : decode cL_law 301 = .ok (.aload_n 1, 1) := by decide +kernel
theorem dL_law_302 : decode cL_law 302 = .ok (.aload_n 0, 1) := by decide +kernel
theorem dL_law_303 : decode cL_law 303 = .ok (.iload_n 3, 1) := by decide +kernel
theorem dL_law_304 : decode cL_law 304 = .ok (.iconst 1, 1) := by decide +kernel
theorem dL_law_305 : decode cL_law 305 = .ok (.iadd, 1) := by decide +kernel
theorem dL_law_306 : decode cL_law 306 = .ok (.iaload, 1) := by decide +kernel
theorem dL_law_307 : decode cL_law 307 = .ok (.aload_n 0, 1) := by decide +kernel
theorem dL_law_308 : decode cL_law 308 = .ok (.iload_n 3, 1) := by decide +kernel
theorem dL_law_309 : decode cL_law 309 = .ok (.iconst 2, 1) := by decide +kernel
theorem dL_law_310 : decode cL_law 310 = .ok (.iadd, 1) := by decide +kernel
theorem dL_law_311 : decode cL_law 311 = .ok (.iaload, 1) := by decide +kernel
theorem dL_law_312 : decode cL_law 312 = .ok (.invokevirtual 44, 3) := by decide +kernel
theorem dL_law_315 : decode cL_law 315 = .ok (.aload_n 2, 1) := by decide +kernel
theorem dL_law_316 : decode cL_law 316 = .ok (.aload_n 0, 1) := by decide +kernel
theorem dL_law_317 : decode cL_law 317 = .ok (.iload_n 3, 1) := by decide +kernel
theorem dL_law_318 : decode cL_law 318 = .ok (.iconst 1, 1) := by decide +kernel
theorem dL_law_319 : decode cL_law 319 = .ok (.iadd, 1) := by decide +kernel
theorem dL_law_320 : decode cL_law 320 = .ok (.iaload, 1) := by decide +kernel
theorem dL_law_321 : decode cL_law 321 = .ok (.aload_n 0, 1) := by decide +kernel
theorem dL_law_322 : decode cL_law 322 = .ok (.iload_n 3, 1) := by decide +kernel
theorem dL_law_323 : decode cL_law 323 = .ok (.iconst 2, 1) := by decide +kernel
theorem dL_law_324 : decode cL_law 324 = .ok (.iadd, 1) := by decide +kernel
theorem dL_law_325 : decode cL_law 325 = .ok (.iaload, 1) := by decide +kernel
theorem dL_law_326 : decode cL_law 326 = .ok (.invokevirtual 48, 3) := by decide +kernel
theorem dL_law_329 : decode cL_law 329 = .ok (.if_icmp .eq 543, 3) := by decide +kernel
theorem dL_law_332 : decode cL_law 332 = .ok (.iconst 0, 1) := by decide +kernel
theorem dL_law_333 : decode cL_law 333 = .ok (.ireturn, 1) := by decide +kernel
theorem dL_law_334 : decode cL_law 334 = .ok (.aload_n 1, 1) := by decide +kernel
theorem dL_law_335 : decode cL_law 335 = .ok (.aload_n 0, 1) := by decide +kernel
theorem dL_law_336 : decode cL_law 336 = .ok (.iload_n 3, 1) := by decide +kernel
theorem dL_law_337 : decode cL_law 337 = .ok (.iconst 1, 1) := by decide +kernel
theorem dL_law_338 : decode cL_law 338 = .ok (.iadd, 1) := by decide +kernel
theorem dL_law_339 : decode cL_law 339 = .ok (.iaload, 1) := by decide +kernel
theorem dL_law_340 : decode cL_law 340 = .ok (.invokevirtual 49, 3) := by decide +kernel
theorem dL_law_343 : decode cL_law 343 = .ok (.aload_n 2, 1) := by decide +kernel
theorem dL_law_344 : decode cL_law 344 = .ok (.aload_n 0, 1) := by decide +kernel
theorem dL_law_345 : decode cL_law 345 = .ok (.iload_n 3, 1) := by decide +kernel
theorem dL_law_346 : decode cL_law 346 = .ok (.iconst 1, 1) := by decide +kernel
theorem dL_law_347 : decode cL_law 347 = .ok (.iadd, 1) := by decide +kernel
theorem dL_law_348 : decode cL_law 348 = .ok (.iaload, 1) := by decide +kernel
theorem dL_law_349 : decode cL_law 349 = .ok (.invokevirtual 52, 3) := by decide +kernel
theorem dL_law_352 : decode cL_law 352 = .ok (.if_icmp .eq 520, 3) := by decide +kernel
theorem dL_law_355 : decode cL_law 355 = .ok (.iconst 0, 1) := by decide +kernel
theorem dL_law_356 : decode cL_law 356 = .ok (.ireturn, 1) := by decide +kernel
theorem dL_law_357 : decode cL_law 357 = .ok (.aload_n 1, 1) := by decide +kernel
theorem dL_law_358 : decode cL_law 358 = .ok (.aload_n 0, 1) := by decide +kernel
theorem dL_law_359 : decode cL_law 359 = .ok (.iload_n 3, 1) := by decide +kernel
theorem dL_law_360 : decode cL_law 360 = .ok (.iconst 1, 1) := by decide +kernel
theorem dL_law_361 : decode cL_law 361 = .ok (.iadd, 1) := by decide +kernel
theorem dL_law_362 : decode cL_law 362 = .ok (.iaload, 1) := by decide +kernel
theorem dL_law_363 : decode cL_law 363 = .ok (.invokevirtual 53, 3) := by decide +kernel
theorem dL_law_366 : decode cL_law 366 = .ok (.aload_n 2, 1) := by decide +kernel
theorem dL_law_367 : decode cL_law 367 = .ok (.aload_n 0, 1) := by decide +kernel
theorem dL_law_368 : decode cL_law 368 = .ok (.iload_n 3, 1) := by decide +kernel
theorem dL_law_369 : decode cL_law 369 = .ok (.iconst 1, 1) := by decide +kernel
theorem dL_law_370 : decode cL_law 370 = .ok (.iadd, 1) := by decide +kernel
theorem dL_law_371 : decode cL_law 371 = .ok (.iaload, 1) := by decide +kernel
theorem dL_law_372 : decode cL_law 372 = .ok (.invokevirtual 56, 3) := by decide +kernel
theorem dL_law_375 : decode cL_law 375 = .ok (.if_icmp .eq 497, 3) := by decide +kernel
theorem dL_law_378 : decode cL_law 378 = .ok (.iconst 0, 1) := by decide +kernel
theorem dL_law_379 : decode cL_law 379 = .ok (.ireturn, 1) := by decide +kernel
theorem dL_law_380 : decode cL_law 380 = .ok (.aload_n 1, 1) := by decide +kernel
theorem dL_law_381 : decode cL_law 381 = .ok (.aload_n 0, 1) := by decide +kernel
theorem dL_law_382 : decode cL_law 382 = .ok (.iload_n 3, 1) := by decide +kernel
theorem dL_law_383 : decode cL_law 383 = .ok (.iconst 1, 1) := by decide +kernel
theorem dL_law_384 : decode cL_law 384 = .ok (.iadd, 1) := by decide +kernel
theorem dL_law_385 : decode cL_law 385 = .ok (.iaload, 1) := by decide +kernel
theorem dL_law_386 : decode cL_law 386 = .ok (.aload_n 0, 1) := by decide +kernel
theorem dL_law_387 : decode cL_law 387 = .ok (.iload_n 3, 1) := by decide +kernel
theorem dL_law_388 : decode cL_law 388 = .ok (.iconst 2, 1) := by decide +kernel
theorem dL_law_389 : decode cL_law 389 = .ok (.iadd, 1) := by decide +kernel
theorem dL_law_390 : decode cL_law 390 = .ok (.iaload, 1) := by decide +kernel
theorem dL_law_391 : decode cL_law 391 = .ok (.aload_n 0, 1) := by decide +kernel
theorem dL_law_392 : decode cL_law 392 = .ok (.iload_n 3, 1) := by decide +kernel
theorem dL_law_393 : decode cL_law 393 = .ok (.iconst 3, 1) := by decide +kernel
theorem dL_law_394 : decode cL_law 394 = .ok (.iadd, 1) := by decide +kernel
theorem dL_law_395 : decode cL_law 395 = .ok (.iaload, 1) := by decide +kernel
theorem dL_law_396 : decode cL_law 396 = .ok (.invokevirtual 57, 3) := by decide +kernel
theorem dL_law_399 : decode cL_law 399 = .ok (.aload_n 2, 1) := by decide +kernel
theorem dL_law_400 : decode cL_law 400 = .ok (.aload_n 0, 1) := by decide +kernel
theorem dL_law_401 : decode cL_law 401 = .ok (.iload_n 3, 1) := by decide +kernel
theorem dL_law_402 : decode cL_law 402 = .ok (.iconst 1, 1) := by decide +kernel
theorem dL_law_403 : decode cL_law 403 = .ok (.iadd, 1) := by decide +kernel
theorem dL_law_404 : decode cL_law 404 = .ok (.iaload, 1) := by decide +kernel
theorem dL_law_405 : decode cL_law 405 = .ok (.aload_n 0, 1) := by decide +kernel
theorem dL_law_406 : decode cL_law 406 = .ok (.iload_n 3, 1) := by decide +kernel
theorem dL_law_407 : decode cL_law 407 = .ok (.iconst 2, 1) := by decide +kernel
theorem dL_law_408 : decode cL_law 408 = .ok (.iadd, 1) := by decide +kernel
theorem dL_law_409 : decode cL_law 409 = .ok (.iaload, 1) := by decide +kernel
theorem dL_law_410 : decode cL_law 410 = .ok (.aload_n 0, 1) := by decide +kernel
theorem dL_law_411 : decode cL_law 411 = .ok (.iload_n 3, 1) := by decide +kernel
theorem dL_law_412 : decode cL_law 412 = .ok (.iconst 3, 1) := by decide +kernel
theorem dL_law_413 : decode cL_law 413 = .ok (.iadd, 1) := by decide +kernel
theorem dL_law_414 : decode cL_law 414 = .ok (.iaload, 1) := by decide +kernel
theorem dL_law_415 : decode cL_law 415 = .ok (.invokevirtual 61, 3) := by decide +kernel
theorem dL_law_418 : decode cL_law 418 = .ok (.if_icmp .eq 454, 3) := by decide +kernel
theorem dL_law_421 : decode cL_law 421 = .ok (.iconst 0, 1) := by decide +kernel
theorem dL_law_422 : decode cL_law 422 = .ok (.ireturn, 1) := by decide +kernel
theorem dL_law_423 : decode cL_law 423 = .ok (.aload_n 1, 1) := by decide +kernel
theorem dL_law_424 : decode cL_law 424 = .ok (.aload_n 0, 1) := by decide +kernel
theorem dL_law_425 : decode cL_law 425 = .ok (.iload_n 3, 1) := by decide +kernel
theorem dL_law_426 : decode cL_law 426 = .ok (.iconst 1, 1) := by decide +kernel
theorem dL_law_427 : decode cL_law 427 = .ok (.iadd, 1) := by decide +kernel
theorem dL_law_428 : decode cL_law 428 = .ok (.iaload, 1) := by decide +kernel
theorem dL_law_429 : decode cL_law 429 = .ok (.aload_n 0, 1) := by decide +kernel
theorem dL_law_430 : decode cL_law 430 = .ok (.iload_n 3, 1) := by decide +kernel
theorem dL_law_431 : decode cL_law 431 = .ok (.iconst 2, 1) := by decide +kernel
theorem dL_law_432 : decode cL_law 432 = .ok (.iadd, 1) := by decide +kernel
theorem dL_law_433 : decode cL_law 433 = .ok (.iaload, 1) := by decide +kernel
theorem dL_law_434 : decode cL_law 434 = .ok (.i2l, 1) := by decide +kernel
theorem dL_law_435 : decode cL_law 435 = .ok (.bipush 32, 2) := by decide +kernel
theorem dL_law_437 : decode cL_law 437 = .ok (.lshl, 1) := by decide +kernel
theorem dL_law_438 : decode cL_law 438 = .ok (.aload_n 0, 1) := by decide +kernel
theorem dL_law_439 : decode cL_law 439 = .ok (.iload_n 3, 1) := by decide +kernel
theorem dL_law_440 : decode cL_law 440 = .ok (.iconst 3, 1) := by decide +kernel
theorem dL_law_441 : decode cL_law 441 = .ok (.iadd, 1) := by decide +kernel
theorem dL_law_442 : decode cL_law 442 = .ok (.iaload, 1) := by decide +kernel
theorem dL_law_443 : decode cL_law 443 = .ok (.i2l, 1) := by decide +kernel
theorem dL_law_444 : decode cL_law 444 = .ok (.ldc2_w 62, 3) := by decide +kernel
theorem dL_law_447 : decode cL_law 447 = .ok (.land, 1) := by decide +kernel
theorem dL_law_448 : decode cL_law 448 = .ok (.lor, 1) := by decide +kernel
theorem dL_law_449 : decode cL_law 449 = .ok (.aload_n 0, 1) := by decide +kernel
theorem dL_law_450 : decode cL_law 450 = .ok (.iload_n 3, 1) := by decide +kernel
theorem dL_law_451 : decode cL_law 451 = .ok (.iconst 4, 1) := by decide +kernel
theorem dL_law_452 : decode cL_law 452 = .ok (.iadd, 1) := by decide +kernel
theorem dL_law_453 : decode cL_law 453 = .ok (.iaload, 1) := by decide +kernel
theorem dL_law_454 : decode cL_law 454 = .ok (.aload_n 0, 1) := by decide +kernel
theorem dL_law_455 : decode cL_law 455 = .ok (.iload_n 3, 1) := by decide +kernel
theorem dL_law_456 : decode cL_law 456 = .ok (.iconst 5, 1) := by decide +kernel
theorem dL_law_457 : decode cL_law 457 = .ok (.iadd, 1) := by decide +kernel
theorem dL_law_458 : decode cL_law 458 = .ok (.iaload, 1) := by decide +kernel
theorem dL_law_459 : decode cL_law 459 = .ok (.invokevirtual 64, 3) := by decide +kernel
theorem dL_law_462 : decode cL_law 462 = .ok (.aload_n 2, 1) := by decide +kernel
theorem dL_law_463 : decode cL_law 463 = .ok (.aload_n 0, 1) := by decide +kernel
theorem dL_law_464 : decode cL_law 464 = .ok (.iload_n 3, 1) := by decide +kernel
theorem dL_law_465 : decode cL_law 465 = .ok (.iconst 1, 1) := by decide +kernel
theorem dL_law_466 : decode cL_law 466 = .ok (.iadd, 1) := by decide +kernel
theorem dL_law_467 : decode cL_law 467 = .ok (.iaload, 1) := by decide +kernel
theorem dL_law_468 : decode cL_law 468 = .ok (.aload_n 0, 1) := by decide +kernel
theorem dL_law_469 : decode cL_law 469 = .ok (.iload_n 3, 1) := by decide +kernel
theorem dL_law_470 : decode cL_law 470 = .ok (.iconst 2, 1) := by decide +kernel
theorem dL_law_471 : decode cL_law 471 = .ok (.iadd, 1) := by decide +kernel
theorem dL_law_472 : decode cL_law 472 = .ok (.iaload, 1) := by decide +kernel
theorem dL_law_473 : decode cL_law 473 = .ok (.i2l, 1) := by decide +kernel
theorem dL_law_474 : decode cL_law 474 = .ok (.bipush 32, 2) := by decide +kernel
theorem dL_law_476 : decode cL_law 476 = .ok (.lshl, 1) := by decide +kernel
theorem dL_law_477 : decode cL_law 477 = .ok (.aload_n 0, 1) := by decide +kernel
theorem dL_law_478 : decode cL_law 478 = .ok (.iload_n 3, 1) := by decide +kernel
theorem dL_law_479 : decode cL_law 479 = .ok (.iconst 3, 1) := by decide +kernel
theorem dL_law_480 : decode cL_law 480 = .ok (.iadd, 1) := by decide +kernel
theorem dL_law_481 : decode cL_law 481 = .ok (.iaload, 1) := by decide +kernel
theorem dL_law_482 : decode cL_law 482 = .ok (.i2l, 1) := by decide +kernel
theorem dL_law_483 : decode cL_law 483 = .ok (.ldc2_w 62, 3) := by decide +kernel
theorem dL_law_486 : decode cL_law 486 = .ok (.land, 1) := by decide +kernel
theorem dL_law_487 : decode cL_law 487 = .ok (.lor, 1) := by decide +kernel
theorem dL_law_488 : decode cL_law 488 = .ok (.aload_n 0, 1) := by decide +kernel
theorem dL_law_489 : decode cL_law 489 = .ok (.iload_n 3, 1) := by decide +kernel
theorem dL_law_490 : decode cL_law 490 = .ok (.iconst 4, 1) := by decide +kernel
theorem dL_law_491 : decode cL_law 491 = .ok (.iadd, 1) := by decide +kernel
theorem dL_law_492 : decode cL_law 492 = .ok (.iaload, 1) := by decide +kernel
theorem dL_law_493 : decode cL_law 493 = .ok (.aload_n 0, 1) := by decide +kernel
theorem dL_law_494 : decode cL_law 494 = .ok (.iload_n 3, 1) := by decide +kernel
theorem dL_law_495 : decode cL_law 495 = .ok (.iconst 5, 1) := by decide +kernel
theorem dL_law_496 : decode cL_law 496 = .ok (.iadd, 1) := by decide +kernel
theorem dL_law_497 : decode cL_law 497 = .ok (.iaload, 1) := by decide +kernel
theorem dL_law_498 : decode cL_law 498 = .ok (.invokevirtual 68, 3) := by decide +kernel
theorem dL_law_501 : decode cL_law 501 = .ok (.if_icmp .eq 371, 3) := by decide +kernel
theorem dL_law_504 : decode cL_law 504 = .ok (.iconst 0, 1) := by decide +kernel
theorem dL_law_505 : decode cL_law 505 = .ok (.ireturn, 1) := by decide +kernel
theorem dL_law_506 : decode cL_law 506 = .ok (.aload_n 1, 1) := by decide +kernel
theorem dL_law_507 : decode cL_law 507 = .ok (.aload_n 0, 1) := by decide +kernel
theorem dL_law_508 : decode cL_law 508 = .ok (.iload_n 3, 1) := by decide +kernel
theorem dL_law_509 : decode cL_law 509 = .ok (.iconst 1, 1) := by decide +kernel
theorem dL_law_510 : decode cL_law 510 = .ok (.iadd, 1) := by decide +kernel
theorem dL_law_511 : decode cL_law 511 = .ok (.iaload, 1) := by decide +kernel
theorem dL_law_512 : decode cL_law 512 = .ok (.aload_n 0, 1) := by decide +kernel
theorem dL_law_513 : decode cL_law 513 = .ok (.iload_n 3, 1) := by decide +kernel
theorem dL_law_514 : decode cL_law 514 = .ok (.iconst 2, 1) := by decide +kernel
theorem dL_law_515 : decode cL_law 515 = .ok (.iadd, 1) := by decide +kernel
theorem dL_law_516 : decode cL_law 516 = .ok (.iaload, 1) := by decide +kernel
theorem dL_law_517 : decode cL_law 517 = .ok (.aload_n 0, 1) := by decide +kernel
theorem dL_law_518 : decode cL_law 518 = .ok (.iload_n 3, 1) := by decide +kernel
theorem dL_law_519 : decode cL_law 519 = .ok (.iconst 3, 1) := by decide +kernel
theorem dL_law_520 : decode cL_law 520 = .ok (.iadd, 1) := by decide +kernel
theorem dL_law_521 : decode cL_law 521 = .ok (.iaload, 1) := by decide +kernel
theorem dL_law_522 : decode cL_law 522 = .ok (.aload_n 0, 1) := by decide +kernel
theorem dL_law_523 : decode cL_law 523 = .ok (.iload_n 3, 1) := by decide +kernel
theorem dL_law_524 : decode cL_law 524 = .ok (.iconst 4, 1) := by decide +kernel
theorem dL_law_525 : decode cL_law 525 = .ok (.iadd, 1) := by decide +kernel
theorem dL_law_526 : decode cL_law 526 = .ok (.iaload, 1) := by decide +kernel
theorem dL_law_527 : decode cL_law 527 = .ok (.aload_n 0, 1) := by decide +kernel
theorem dL_law_528 : decode cL_law 528 = .ok (.iload_n 3, 1) := by decide +kernel
theorem dL_law_529 : decode cL_law 529 = .ok (.iconst 5, 1) := by decide +kernel
theorem dL_law_530 : decode cL_law 530 = .ok (.iadd, 1) := by decide +kernel
theorem dL_law_531 : decode cL_law 531 = .ok (.iaload, 1) := by decide +kernel
theorem dL_law_532 : decode cL_law 532 = .ok (.aload_n 0, 1) := by decide +kernel
theorem dL_law_533 : decode cL_law 533 = .ok (.iload_n 3, 1) := by decide +kernel
theorem dL_law_534 : decode cL_law 534 = .ok (.bipush 6, 2) := by decide +kernel
theorem dL_law_536 : decode cL_law 536 = .ok (.iadd, 1) := by decide +kernel
theorem dL_law_537 : decode cL_law 537 = .ok (.iaload, 1) := by decide +kernel
theorem dL_law_538 : decode cL_law 538 = .ok (.invokevirtual 69, 3) := by decide +kernel
theorem dL_law_541 : decode cL_law 541 = .ok (.aload_n 2, 1) := by decide +kernel
theorem dL_law_542 : decode cL_law 542 = .ok (.aload_n 0, 1) := by decide +kernel
theorem dL_law_543 : decode cL_law 543 = .ok (.iload_n 3, 1) := by decide +kernel
theorem dL_law_544 : decode cL_law 544 = .ok (.iconst 1, 1) := by decide +kernel
theorem dL_law_545 : decode cL_law 545 = .ok (.iadd, 1) := by decide +kernel
theorem dL_law_546 : decode cL_law 546 = .ok (.iaload, 1) := by decide +kernel
theorem dL_law_547 : decode cL_law 547 = .ok (.aload_n 0, 1) := by decide +kernel
theorem dL_law_548 : decode cL_law 548 = .ok (.iload_n 3, 1) := by decide +kernel
theorem dL_law_549 : decode cL_law 549 = .ok (.iconst 2, 1) := by decide +kernel
theorem dL_law_550 : decode cL_law 550 = .ok (.iadd, 1) := by decide +kernel
theorem dL_law_551 : decode cL_law 551 = .ok (.iaload, 1) := by decide +kernel
theorem dL_law_552 : decode cL_law 552 = .ok (.aload_n 0, 1) := by decide +kernel
theorem dL_law_553 : decode cL_law 553 = .ok (.iload_n 3, 1) := by decide +kernel
theorem dL_law_554 : decode cL_law 554 = .ok (.iconst 3, 1) := by decide +kernel
theorem dL_law_555 : decode cL_law 555 = .ok (.iadd, 1) := by decide +kernel
theorem dL_law_556 : decode cL_law 556 = .ok (.iaload, 1) := by decide +kernel
theorem dL_law_557 : decode cL_law 557 = .ok (.aload_n 0, 1) := by decide +kernel
theorem dL_law_558 : decode cL_law 558 = .ok (.iload_n 3, 1) := by decide +kernel
theorem dL_law_559 : decode cL_law 559 = .ok (.iconst 4, 1) := by decide +kernel
theorem dL_law_560 : decode cL_law 560 = .ok (.iadd, 1) := by decide +kernel
theorem dL_law_561 : decode cL_law 561 = .ok (.iaload, 1) := by decide +kernel
theorem dL_law_562 : decode cL_law 562 = .ok (.aload_n 0, 1) := by decide +kernel
theorem dL_law_563 : decode cL_law 563 = .ok (.iload_n 3, 1) := by decide +kernel
theorem dL_law_564 : decode cL_law 564 = .ok (.iconst 5, 1) := by decide +kernel
theorem dL_law_565 : decode cL_law 565 = .ok (.iadd, 1) := by decide +kernel
theorem dL_law_566 : decode cL_law 566 = .ok (.iaload, 1) := by decide +kernel
theorem dL_law_567 : decode cL_law 567 = .ok (.aload_n 0, 1) := by decide +kernel
theorem dL_law_568 : decode cL_law 568 = .ok (.iload_n 3, 1) := by decide +kernel
theorem dL_law_569 : decode cL_law 569 = .ok (.bipush 6, 2) := by decide +kernel
theorem dL_law_571 : decode cL_law 571 = .ok (.iadd, 1) := by decide +kernel
theorem dL_law_572 : decode cL_law 572 = .ok (.iaload, 1) := by decide +kernel
theorem dL_law_573 : decode cL_law 573 = .ok (.invokevirtual 73, 3) := by decide +kernel
theorem dL_law_576 : decode cL_law 576 = .ok (.if_icmp .eq 296, 3) := by decide +kernel
theorem dL_law_579 : decode cL_law 579 = .ok (.iconst 0, 1) := by decide +kernel
theorem dL_law_580 : decode cL_law 580 = .ok (.ireturn, 1) := by decide +kernel
theorem dL_law_581 : decode cL_law 581 = .ok (.aload_n 1, 1) := by decide +kernel
theorem dL_law_582 : decode cL_law 582 = .ok (.aload_n 0, 1) := by decide +kernel
theorem dL_law_583 : decode cL_law 583 = .ok (.iload_n 3, 1) := by decide +kernel
theorem dL_law_584 : decode cL_law 584 = .ok (.iconst 1, 1) := by decide +kernel
theorem dL_law_585 : decode cL_law 585 = .ok (.iadd, 1) := by decide +kernel
theorem dL_law_586 : decode cL_law 586 = .ok (.iaload, 1) := by decide +kernel
theorem dL_law_587 : decode cL_law 587 = .ok (.aload_n 0, 1) := by decide +kernel
theorem dL_law_588 : decode cL_law 588 = .ok (.iload_n 3, 1) := by decide +kernel
theorem dL_law_589 : decode cL_law 589 = .ok (.iconst 2, 1) := by decide +kernel
theorem dL_law_590 : decode cL_law 590 = .ok (.iadd, 1) := by decide +kernel
theorem dL_law_591 : decode cL_law 591 = .ok (.iaload, 1) := by decide +kernel
theorem dL_law_592 : decode cL_law 592 = .ok (.invokevirtual 74, 3) := by decide +kernel
theorem dL_law_595 : decode cL_law 595 = .ok (.aload_n 2, 1) := by decide +kernel
theorem dL_law_596 : decode cL_law 596 = .ok (.aload_n 0, 1) := by decide +kernel
theorem dL_law_597 : decode cL_law 597 = .ok (.iload_n 3, 1) := by decide +kernel
theorem dL_law_598 : decode cL_law 598 = .ok (.iconst 1, 1) := by decide +kernel
theorem dL_law_599 : decode cL_law 599 = .ok (.iadd, 1) := by decide +kernel
theorem dL_law_600 : decode cL_law 600 = .ok (.iaload, 1) := by decide +kernel
theorem dL_law_601 : decode cL_law 601 = .ok (.aload_n 0, 1) := by decide +kernel
theorem dL_law_602 : decode cL_law 602 = .ok (.iload_n 3, 1) := by decide +kernel
theorem dL_law_603 : decode cL_law 603 = .ok (.iconst 2, 1) := by decide +kernel
theorem dL_law_604 : decode cL_law 604 = .ok (.iadd, 1) := by decide +kernel
theorem dL_law_605 : decode cL_law 605 = .ok (.iaload, 1) := by decide +kernel
theorem dL_law_606 : decode cL_law 606 = .ok (.invokevirtual 77, 3) := by decide +kernel
theorem dL_law_609 : decode cL_law 609 = .ok (.if_icmp .eq 263, 3) := by decide +kernel
theorem dL_law_612 : decode cL_law 612 = .ok (.iconst 0, 1) := by decide +kernel
theorem dL_law_613 : decode cL_law 613 = .ok (.ireturn, 1) := by decide +kernel
theorem dL_law_614 : decode cL_law 614 = .ok (.aload_n 1, 1) := by decide +kernel
theorem dL_law_615 : decode cL_law 615 = .ok (.invokevirtual 78, 3) := by decide +kernel
theorem dL_law_618 : decode cL_law 618 = .ok (.aload_n 2, 1) := by decide +kernel
theorem dL_law_619 : decode cL_law 619 = .ok (.invokevirtual 81, 3) := by decide +kernel
theorem dL_law_622 : decode cL_law 622 = .ok (.if_icmp .eq 250, 3) := by decide +kernel
theorem dL_law_625 : decode cL_law 625 = .ok (.iconst 0, 1) := by decide +kernel
theorem dL_law_626 : decode cL_law 626 = .ok (.ireturn, 1) := by decide +kernel
theorem dL_law_627 : decode cL_law 627 = .ok (.aload_n 1, 1) := by decide +kernel
theorem dL_law_628 : decode cL_law 628 = .ok (.aload_n 0, 1) := by decide +kernel
theorem dL_law_629 : decode cL_law 629 = .ok (.iload_n 3, 1) := by decide +kernel
theorem dL_law_630 : decode cL_law 630 = .ok (.iconst 1, 1) := by decide +kernel
theorem dL_law_631 : decode cL_law 631 = .ok (.iadd, 1) := by decide +kernel
theorem dL_law_632 : decode cL_law 632 = .ok (.iaload, 1) := by decide +kernel
theorem dL_law_633 : decode cL_law 633 = .ok (.invokevirtual 82, 3) := by decide +kernel
theorem dL_law_636 : decode cL_law 636 = .ok (.aload_n 2, 1) := by decide +kernel
theorem dL_law_637 : decode cL_law 637 = .ok (.aload_n 0, 1) := by decide +kernel
theorem dL_law_638 : decode cL_law 638 = .ok (.iload_n 3, 1) := by decide +kernel
theorem dL_law_639 : decode cL_law 639 = .ok (.iconst 1, 1) := by decide +kernel
theorem dL_law_640 : decode cL_law 640 = .ok (.iadd, 1) := by decide +kernel
theorem dL_law_641 : decode cL_law 641 = .ok (.iaload, 1) := by decide +kernel
theorem dL_law_642 : decode cL_law 642 = .ok (.invokevirtual 85, 3) := by decide +kernel
theorem dL_law_645 : decode cL_law 645 = .ok (.if_icmp .eq 227, 3) := by decide +kernel
theorem dL_law_648 : decode cL_law 648 = .ok (.iconst 0, 1) := by decide +kernel
theorem dL_law_649 : decode cL_law 649 = .ok (.ireturn, 1) := by decide +kernel
theorem dL_law_650 : decode cL_law 650 = .ok (.aload_n 1, 1) := by decide +kernel
theorem dL_law_651 : decode cL_law 651 = .ok (.aload_n 0, 1) := by decide +kernel
theorem dL_law_652 : decode cL_law 652 = .ok (.iload_n 3, 1) := by decide +kernel
theorem dL_law_653 : decode cL_law 653 = .ok (.iconst 1, 1) := by decide +kernel
theorem dL_law_654 : decode cL_law 654 = .ok (.iadd, 1) := by decide +kernel
theorem dL_law_655 : decode cL_law 655 = .ok (.iaload, 1) := by decide +kernel
theorem dL_law_656 : decode cL_law 656 = .ok (.invokevirtual 86, 3) := by decide +kernel
theorem dL_law_659 : decode cL_law 659 = .ok (.aload_n 2, 1) := by decide +kernel
theorem dL_law_660 : decode cL_law 660 = .ok (.aload_n 0, 1) := by decide +kernel
theorem dL_law_661 : decode cL_law 661 = .ok (.iload_n 3, 1) := by decide +kernel
theorem dL_law_662 : decode cL_law 662 = .ok (.iconst 1, 1) := by decide +kernel
theorem dL_law_663 : decode cL_law 663 = .ok (.iadd, 1) := by decide +kernel
theorem dL_law_664 : decode cL_law 664 = .ok (.iaload, 1) := by decide +kernel
theorem dL_law_665 : decode cL_law 665 = .ok (.invokevirtual 89, 3) := by decide +kernel
theorem dL_law_668 : decode cL_law 668 = .ok (.if_icmp .eq 204, 3) := by decide +kernel
theorem dL_law_671 : decode cL_law 671 = .ok (.iconst 0, 1) := by decide +kernel
theorem dL_law_672 : decode cL_law 672 = .ok (.ireturn, 1) := by decide +kernel
theorem dL_law_673 : decode cL_law 673 = .ok (.aload_n 1, 1) := by decide +kernel
theorem dL_law_674 : decode cL_law 674 = .ok (.aload_n 0, 1) := by decide +kernel
theorem dL_law_675 : decode cL_law 675 = .ok (.iload_n 3, 1) := by decide +kernel
theorem dL_law_676 : decode cL_law 676 = .ok (.iconst 1, 1) := by decide +kernel
theorem dL_law_677 : decode cL_law 677 = .ok (.iadd, 1) := by decide +kernel
theorem dL_law_678 : decode cL_law 678 = .ok (.iaload, 1) := by decide +kernel
theorem dL_law_679 : decode cL_law 679 = .ok (.aload_n 0, 1) := by decide +kernel
theorem dL_law_680 : decode cL_law 680 = .ok (.iload_n 3, 1) := by decide +kernel
theorem dL_law_681 : decode cL_law 681 = .ok (.iconst 2, 1) := by decide +kernel
theorem dL_law_682 : decode cL_law 682 = .ok (.iadd, 1) := by decide +kernel
theorem dL_law_683 : decode cL_law 683 = .ok (.iaload, 1) := by decide +kernel
theorem dL_law_684 : decode cL_law 684 = .ok (.invokevirtual 90, 3) := by decide +kernel
theorem dL_law_687 : decode cL_law 687 = .ok (.aload_n 2, 1) := by decide +kernel
theorem dL_law_688 : decode cL_law 688 = .ok (.aload_n 0, 1) := by decide +kernel
theorem dL_law_689 : decode cL_law 689 = .ok (.iload_n 3, 1) := by decide +kernel
theorem dL_law_690 : decode cL_law 690 = .ok (.iconst 1, 1) := by decide +kernel
theorem dL_law_691 : decode cL_law 691 = .ok (.iadd, 1) := by decide +kernel
theorem dL_law_692 : decode cL_law 692 = .ok (.iaload, 1) := by decide +kernel
theorem dL_law_693 : decode cL_law 693 = .ok (.aload_n 0, 1) := by decide +kernel
theorem dL_law_694 : decode cL_law 694 = .ok (.iload_n 3, 1) := by decide +kernel
theorem dL_law_695 : decode cL_law 695 = .ok (.iconst 2, 1) := by decide +kernel
theorem dL_law_696 : decode cL_law 696 = .ok (.iadd, 1) := by decide +kernel
theorem dL_law_697 : decode cL_law 697 = .ok (.iaload, 1) := by decide +kernel
theorem dL_law_698 : decode cL_law 698 = .ok (.invokevirtual 93, 3) := by decide +kernel
theorem dL_law_701 : decode cL_law 701 = .ok (.if_icmp .eq 171, 3) := by decide +kernel
theorem dL_law_704 : decode cL_law 704 = .ok (.iconst 0, 1) := by decide +kernel
theorem dL_law_705 : decode cL_law 705 = .ok (.ireturn, 1) := by decide +kernel
theorem dL_law_706 : decode cL_law 706 = .ok (.aload_n 1, 1) := by decide +kernel
theorem dL_law_707 : decode cL_law 707 = .ok (.aload_n 0, 1) := by decide +kernel
theorem dL_law_708 : decode cL_law 708 = .ok (.iload_n 3, 1) := by decide +kernel
theorem dL_law_709 : decode cL_law 709 = .ok (.iconst 1, 1) := by decide +kernel
theorem dL_law_710 : decode cL_law 710 = .ok (.iadd, 1) := by decide +kernel
theorem dL_law_711 : decode cL_law 711 = .ok (.iaload, 1) := by decide +kernel
theorem dL_law_712 : decode cL_law 712 = .ok (.aload_n 0, 1) := by decide +kernel
theorem dL_law_713 : decode cL_law 713 = .ok (.iload_n 3, 1) := by decide +kernel
theorem dL_law_714 : decode cL_law 714 = .ok (.iconst 2, 1) := by decide +kernel
theorem dL_law_715 : decode cL_law 715 = .ok (.iadd, 1) := by decide +kernel
theorem dL_law_716 : decode cL_law 716 = .ok (.iaload, 1) := by decide +kernel
theorem dL_law_717 : decode cL_law 717 = .ok (.aload_n 0, 1) := by decide +kernel
theorem dL_law_718 : decode cL_law 718 = .ok (.iload_n 3, 1) := by decide +kernel
theorem dL_law_719 : decode cL_law 719 = .ok (.iconst 3, 1) := by decide +kernel
theorem dL_law_720 : decode cL_law 720 = .ok (.iadd, 1) := by decide +kernel
theorem dL_law_721 : decode cL_law 721 = .ok (.iaload, 1) := by decide +kernel
theorem dL_law_722 : decode cL_law 722 = .ok (.aload_n 0, 1) := by decide +kernel
theorem dL_law_723 : decode cL_law 723 = .ok (.iload_n 3, 1) := by decide +kernel
theorem dL_law_724 : decode cL_law 724 = .ok (.iconst 4, 1) := by decide +kernel
theorem dL_law_725 : decode cL_law 725 = .ok (.iadd, 1) := by decide +kernel
theorem dL_law_726 : decode cL_law 726 = .ok (.iaload, 1) := by decide +kernel
theorem dL_law_727 : decode cL_law 727 = .ok (.invokevirtual 94, 3) := by decide +kernel
theorem dL_law_730 : decode cL_law 730 = .ok (.aload_n 2, 1) := by decide +kernel
theorem dL_law_731 : decode cL_law 731 = .ok (.aload_n 0, 1) := by decide +kernel
theorem dL_law_732 : decode cL_law 732 = .ok (.iload_n 3, 1) := by decide +kernel
theorem dL_law_733 : decode cL_law 733 = .ok (.iconst 1, 1) := by decide +kernel
theorem dL_law_734 : decode cL_law 734 = .ok (.iadd, 1) := by decide +kernel
theorem dL_law_735 : decode cL_law 735 = .ok (.iaload, 1) := by decide +kernel
theorem dL_law_736 : decode cL_law 736 = .ok (.aload_n 0, 1) := by decide +kernel
theorem dL_law_737 : decode cL_law 737 = .ok (.iload_n 3, 1) := by decide +kernel
theorem dL_law_738 : decode cL_law 738 = .ok (.iconst 2, 1) := by decide +kernel
theorem dL_law_739 : decode cL_law 739 = .ok (.iadd, 1) := by decide +kernel
theorem dL_law_740 : decode cL_law 740 = .ok (.iaload, 1) := by decide +kernel
theorem dL_law_741 : decode cL_law 741 = .ok (.aload_n 0, 1) := by decide +kernel
theorem dL_law_742 : decode cL_law 742 = .ok (.iload_n 3, 1) := by decide +kernel
theorem dL_law_743 : decode cL_law 743 = .ok (.iconst 3, 1) := by decide +kernel
theorem dL_law_744 : decode cL_law 744 = .ok (.iadd, 1) := by decide +kernel
theorem dL_law_745 : decode cL_law 745 = .ok (.iaload, 1) := by decide +kernel
theorem dL_law_746 : decode cL_law 746 = .ok (.aload_n 0, 1) := by decide +kernel
theorem dL_law_747 : decode cL_law 747 = .ok (.iload_n 3, 1) := by decide +kernel
theorem dL_law_748 : decode cL_law 748 = .ok (.iconst 4, 1) := by decide +kernel
theorem dL_law_749 : decode cL_law 749 = .ok (.iadd, 1) := by decide +kernel
theorem dL_law_750 : decode cL_law 750 = .ok (.iaload, 1) := by decide +kernel
theorem dL_law_751 : decode cL_law 751 = .ok (.invokevirtual 98, 3) := by decide +kernel
theorem dL_law_754 : decode cL_law 754 = .ok (.lcmp, 1) := by decide +kernel
theorem dL_law_755 : decode cL_law 755 = .ok (.ifCond .eq 117, 3) := by decide +kernel
theorem dL_law_758 : decode cL_law 758 = .ok (.iconst 0, 1) := by decide +kernel
theorem dL_law_759 : decode cL_law 759 = .ok (.ireturn, 1) := by decide +kernel
theorem dL_law_760 : decode cL_law 760 = .ok (.aload_n 1, 1) := by decide +kernel
theorem dL_law_761 : decode cL_law 761 = .ok (.aload_n 0, 1) := by decide +kernel
theorem dL_law_762 : decode cL_law 762 = .ok (.iload_n 3, 1) := by decide +kernel
theorem dL_law_763 : decode cL_law 763 = .ok (.iconst 1, 1) := by decide +kernel
theorem dL_law_764 : decode cL_law 764 = .ok (.iadd, 1) := by decide +kernel
theorem dL_law_765 : decode cL_law 765 = .ok (.iaload, 1) := by decide +kernel
theorem dL_law_766 : decode cL_law 766 = .ok (.aload_n 0, 1) := by decide +kernel
theorem dL_law_767 : decode cL_law 767 = .ok (.iload_n 3, 1) := by decide +kernel
theorem dL_law_768 : decode cL_law 768 = .ok (.iconst 2, 1) := by decide +kernel
theorem dL_law_769 : decode cL_law 769 = .ok (.iadd, 1) := by decide +kernel
theorem dL_law_770 : decode cL_law 770 = .ok (.iaload, 1) := by decide +kernel
theorem dL_law_771 : decode cL_law 771 = .ok (.aload_n 0, 1) := by decide +kernel
theorem dL_law_772 : decode cL_law 772 = .ok (.iload_n 3, 1) := by decide +kernel
theorem dL_law_773 : decode cL_law 773 = .ok (.iconst 3, 1) := by decide +kernel
theorem dL_law_774 : decode cL_law 774 = .ok (.iadd, 1) := by decide +kernel
theorem dL_law_775 : decode cL_law 775 = .ok (.iaload, 1) := by decide +kernel
theorem dL_law_776 : decode cL_law 776 = .ok (.invokevirtual 99, 3) := by decide +kernel
theorem dL_law_779 : decode cL_law 779 = .ok (.aload_n 2, 1) := by decide +kernel
theorem dL_law_780 : decode cL_law 780 = .ok (.aload_n 0, 1) := by decide +kernel
theorem dL_law_781 : decode cL_law 781 = .ok (.iload_n 3, 1) := by decide +kernel
theorem dL_law_782 : decode cL_law 782 = .ok (.iconst 1, 1) := by decide +kernel
theorem dL_law_783 : decode cL_law 783 = .ok (.iadd, 1) := by decide +kernel
theorem dL_law_784 : decode cL_law 784 = .ok (.iaload, 1) := by decide +kernel
theorem dL_law_785 : decode cL_law 785 = .ok (.aload_n 0, 1) := by decide +kernel
theorem dL_law_786 : decode cL_law 786 = .ok (.iload_n 3, 1) := by decide +kernel
theorem dL_law_787 : decode cL_law 787 = .ok (.iconst 2, 1) := by decide +kernel
theorem dL_law_788 : decode cL_law 788 = .ok (.iadd, 1) := by decide +kernel
theorem dL_law_789 : decode cL_law 789 = .ok (.iaload, 1) := by decide +kernel
theorem dL_law_790 : decode cL_law 790 = .ok (.aload_n 0, 1) := by decide +kernel
theorem dL_law_791 : decode cL_law 791 = .ok (.iload_n 3, 1) := by decide +kernel
theorem dL_law_792 : decode cL_law 792 = .ok (.iconst 3, 1) := by decide +kernel
theorem dL_law_793 : decode cL_law 793 = .ok (.iadd, 1) := by decide +kernel
theorem dL_law_794 : decode cL_law 794 = .ok (.iaload, 1) := by decide +kernel
theorem dL_law_795 : decode cL_law 795 = .ok (.invokevirtual 102, 3) := by decide +kernel
theorem dL_law_798 : decode cL_law 798 = .ok (.if_icmp .eq 74, 3) := by decide +kernel
theorem dL_law_801 : decode cL_law 801 = .ok (.iconst 0, 1) := by decide +kernel
theorem dL_law_802 : decode cL_law 802 = .ok (.ireturn, 1) := by decide +kernel
theorem dL_law_803 : decode cL_law 803 = .ok (.aload_n 1, 1) := by decide +kernel
theorem dL_law_804 : decode cL_law 804 = .ok (.aload_n 0, 1) := by decide +kernel
theorem dL_law_805 : decode cL_law 805 = .ok (.iload_n 3, 1) := by decide +kernel
theorem dL_law_806 : decode cL_law 806 = .ok (.iconst 1, 1) := by decide +kernel
theorem dL_law_807 : decode cL_law 807 = .ok (.iadd, 1) := by decide +kernel
theorem dL_law_808 : decode cL_law 808 = .ok (.iaload, 1) := by decide +kernel
theorem dL_law_809 : decode cL_law 809 = .ok (.invokevirtual 103, 3) := by decide +kernel
theorem dL_law_812 : decode cL_law 812 = .ok (.aload_n 2, 1) := by decide +kernel
theorem dL_law_813 : decode cL_law 813 = .ok (.aload_n 0, 1) := by decide +kernel
theorem dL_law_814 : decode cL_law 814 = .ok (.iload_n 3, 1) := by decide +kernel
theorem dL_law_815 : decode cL_law 815 = .ok (.iconst 1, 1) := by decide +kernel
theorem dL_law_816 : decode cL_law 816 = .ok (.iadd, 1) := by decide +kernel
theorem dL_law_817 : decode cL_law 817 = .ok (.iaload, 1) := by decide +kernel
theorem dL_law_818 : decode cL_law 818 = .ok (.invokevirtual 106, 3) := by decide +kernel
theorem dL_law_821 : decode cL_law 821 = .ok (.if_icmp .eq 51, 3) := by decide +kernel
theorem dL_law_824 : decode cL_law 824 = .ok (.iconst 0, 1) := by decide +kernel
theorem dL_law_825 : decode cL_law 825 = .ok (.ireturn, 1) := by decide +kernel
theorem dL_law_826 : decode cL_law 826 = .ok (.aload_n 1, 1) := by decide +kernel
theorem dL_law_827 : decode cL_law 827 = .ok (.aload_n 0, 1) := by decide +kernel
theorem dL_law_828 : decode cL_law 828 = .ok (.iload_n 3, 1) := by decide +kernel
theorem dL_law_829 : decode cL_law 829 = .ok (.iconst 1, 1) := by decide +kernel
theorem dL_law_830 : decode cL_law 830 = .ok (.iadd, 1) := by decide +kernel
theorem dL_law_831 : decode cL_law 831 = .ok (.iaload, 1) := by decide +kernel
theorem dL_law_832 : decode cL_law 832 = .ok (.invokevirtual 107, 3) := by decide +kernel
theorem dL_law_835 : decode cL_law 835 = .ok (.aload_n 2, 1) := by decide +kernel
theorem dL_law_836 : decode cL_law 836 = .ok (.aload_n 0, 1) := by decide +kernel
theorem dL_law_837 : decode cL_law 837 = .ok (.iload_n 3, 1) := by decide +kernel
theorem dL_law_838 : decode cL_law 838 = .ok (.iconst 1, 1) := by decide +kernel
theorem dL_law_839 : decode cL_law 839 = .ok (.iadd, 1) := by decide +kernel
theorem dL_law_840 : decode cL_law 840 = .ok (.iaload, 1) := by decide +kernel
theorem dL_law_841 : decode cL_law 841 = .ok (.invokevirtual 110, 3) := by decide +kernel
theorem dL_law_844 : decode cL_law 844 = .ok (.if_icmp .eq 28, 3) := by decide +kernel
theorem dL_law_847 : decode cL_law 847 = .ok (.iconst 0, 1) := by decide +kernel
theorem dL_law_848 : decode cL_law 848 = .ok (.ireturn, 1) := by decide +kernel
theorem dL_law_849 : decode cL_law 849 = .ok (.aload_n 1, 1) := by decide +kernel
theorem dL_law_850 : decode cL_law 850 = .ok (.aload_n 0, 1) := by decide +kernel
theorem dL_law_851 : decode cL_law 851 = .ok (.iload_n 3, 1) := by decide +kernel
theorem dL_law_852 : decode cL_law 852 = .ok (.iconst 1, 1) := by decide +kernel
theorem dL_law_853 : decode cL_law 853 = .ok (.iadd, 1) := by decide +kernel
theorem dL_law_854 : decode cL_law 854 = .ok (.iaload, 1) := by decide +kernel
theorem dL_law_855 : decode cL_law 855 = .ok (.invokevirtual 111, 3) := by decide +kernel
theorem dL_law_858 : decode cL_law 858 = .ok (.aload_n 2, 1) := by decide +kernel
theorem dL_law_859 : decode cL_law 859 = .ok (.aload_n 0, 1) := by decide +kernel
theorem dL_law_860 : decode cL_law 860 = .ok (.iload_n 3, 1) := by decide +kernel
theorem dL_law_861 : decode cL_law 861 = .ok (.iconst 1, 1) := by decide +kernel
theorem dL_law_862 : decode cL_law 862 = .ok (.iadd, 1) := by decide +kernel
theorem dL_law_863 : decode cL_law 863 = .ok (.iaload, 1) := by decide +kernel
theorem dL_law_864 : decode cL_law 864 = .ok (.invokevirtual 114, 3) := by decide +kernel
theorem dL_law_867 : decode cL_law 867 = .ok (.if_icmp .eq 5, 3) := by decide +kernel
theorem dL_law_870 : decode cL_law 870 = .ok (.iconst 0, 1) := by decide +kernel
theorem dL_law_871 : decode cL_law 871 = .ok (.ireturn, 1) := by decide +kernel
theorem dL_law_872 : decode cL_law 872 = .ok (.iinc 3 7, 3) := by decide +kernel
theorem dL_law_875 : decode cL_law 875 = .ok (.goto (-857), 3) := by decide +kernel
theorem dL_law_878 : decode cL_law 878 = .ok (.iconst 1, 1) := by decide +kernel
theorem dL_law_879 : decode cL_law 879 = .ok (.ireturn, 1) := by decide +kernel
end
section
theorem CLX0 : CLS 0 RX0 TX0 8 tyX0 := ⟨rfl, fun w hw => List.mem_filter.mpr ⟨(by decide +kernel : ∀ w ∈ wsX00, w ∈ lw_tbl) w hw, (by decide +kernel : ∀ w ∈ wsX00, goodWord w = true) w hw⟩, tyX0_ok, nmX0⟩
theorem fpX0_3 : FLP 0 3 := fun r h => by cases h; rfl
theorem fpX0_4 : FLP 0 4 := fun r h => by cases h; rfl
theorem fpX0_5 : FLP 0 5 := fun r h => by cases h; rfl
theorem fpX0_6 : FLP 0 6 := fun r h => by cases h; rfl
theorem fpX0_7 : FLP 0 7 := fun r h => by cases h; rfl
theorem CLX1 : CLS 1 RX1 TX1 2 tyX1 := ⟨rfl, fun w hw => List.mem_filter.mpr ⟨(by decide +kernel : ∀ w ∈ wsX10, w ∈ lw_tbl) w hw, (by decide +kernel : ∀ w ∈ wsX10, goodWord w = true) w hw⟩, tyX1_ok, nmX1⟩
theorem CLX2 : CLS 2 RX2 TX2 3 tyX2 := ⟨rfl, fun w hw => List.mem_filter.mpr ⟨(by decide +kernel : ∀ w ∈ wsX20, w ∈ lw_tbl) w hw, (by decide +kernel : ∀ w ∈ wsX20, goodWord w = true) w hw⟩, tyX2_ok, nmX2⟩
theorem fpX2_2 : FLP 2 2 := fun r h => by cases h; rfl
theorem CLX3 : CLS 3 RX3 TX3 2 tyX3 := ⟨rfl, fun w hw => List.mem_filter.mpr ⟨(by decide +kernel : ∀ w ∈ wsX30, w ∈ lw_tbl) w hw, (by decide +kernel : ∀ w ∈ wsX30, goodWord w = true) w hw⟩, tyX3_ok, nmX3⟩
theorem fpX3_1 : FLP 3 1 := fun r h => by cases h; rfl
theorem CLX4 : CLS 4 RX4 TX4 3 tyX4 := ⟨rfl, fun w hw => List.mem_filter.mpr ⟨(by decide +kernel : ∀ w ∈ wsX40, w ∈ lw_tbl) w hw, (by decide +kernel : ∀ w ∈ wsX40, goodWord w = true) w hw⟩, tyX4_ok, nmX4⟩
theorem fpX4_2 : FLP 4 2 := fun r h => by cases h; rfl
theorem CLX5 : CLS 5 RX5 TX5 7 tyX5 := ⟨rfl, fun w hw => List.mem_filter.mpr ⟨(by decide +kernel : ∀ w ∈ wsX50, w ∈ lw_tbl) w hw, (by decide +kernel : ∀ w ∈ wsX50, goodWord w = true) w hw⟩, tyX5_ok, nmX5⟩
theorem fpX5_1 : FLP 5 1 := fun r h => by cases h; rfl
theorem fpX5_2 : FLP 5 2 := fun r h => by cases h; rfl
theorem fpX5_3 : FLP 5 3 := fun r h => by cases h; rfl
theorem fpX5_4 : FLP 5 4 := fun r h => by cases h; rfl
theorem fpX5_5 : FLP 5 5 := fun r h => by cases h; rfl
theorem fpX5_6 : FLP 5 6 := fun r h => by cases h; rfl
theorem CLX6 : CLS 6 RX6 TX6 10 tyX6 := ⟨rfl, fun w hw => List.mem_filter.mpr ⟨(by decide +kernel : ∀ w ∈ wsX60, w ∈ lw_tbl) w hw, (by decide +kernel : ∀ w ∈ wsX60, goodWord w = true) w hw⟩, tyX6_ok, nmX6⟩
theorem fpX6_9 : FLP 6 9 := fun r h => by cases h; rfl
theorem CLX7 : CLS 7 RX7 TX7 20 tyX7 := ⟨rfl, fun w hw => List.mem_filter.mpr ⟨(by decide +kernel : ∀ w ∈ wsX70, w ∈ lw_tbl) w hw, (by decide +kernel : ∀ w ∈ wsX70, goodWord w = true) w hw⟩, tyX7_ok, nmX7⟩
theorem fpX7_2 : FLP 7 2 := fun r h => by cases h; rfl
theorem fpX7_3 : FLP 7 3 := fun r h => by cases h; rfl
theorem fpX7_5 : FLP 7 5 := fun r h => by cases h; rfl
theorem fpX7_7 : FLP 7 7 := fun r h => by cases h; rfl
theorem fpX7_8 : FLP 7 8 := fun r h => by cases h; rfl
theorem fpX7_9 : FLP 7 9 := fun r h => by cases h; rfl
theorem fpX7_10 : FLP 7 10 := fun r h => by cases h; rfl
theorem fpX7_11 : FLP 7 11 := fun r h => by cases h; rfl
theorem fpX7_12 : FLP 7 12 := fun r h => by cases h; rfl
set_option maxRecDepth 20000 in
theorem fX0_9 : FLK RX0 9 0 0 (.array .int) := ⟨RX0, TX0, 8, tyX0, CLX0, by decide, gtbl_in (w := Cond.fieldLink RX0 9 RX0 (TX0 0).2.1 (TX0 0).2.2.1) 46 (by rfl) (by rfl), rfl, rfl⟩
set_option maxRecDepth 20000 in
theorem fX6_83 : FLK RX6 83 0 0 (.array .int) := ⟨RX0, TX0, 8, tyX0, CLX0, by decide, gtbl_in (w := Cond.fieldLink RX6 83 RX0 (TX0 0).2.1 (TX0 0).2.2.1) 47 (by rfl) (by rfl), rfl, rfl⟩
set_option maxRecDepth 20000 in
theorem fX0_15 : FLK RX0 15 0 1 (.array .int) := ⟨RX0, TX0, 8, tyX0, CLX0, by decide, gtbl_in (w := Cond.fieldLink RX0 15 RX0 (TX0 1).2.1 (TX0 1).2.2.1) 48 (by rfl) (by rfl), rfl, rfl⟩
set_option maxRecDepth 20000 in
theorem fX6_140 : FLK RX6 140 0 1 (.array .int) := ⟨RX0, TX0, 8, tyX0, CLX0, by decide, gtbl_in (w := Cond.fieldLink RX6 140 RX0 (TX0 1).2.1 (TX0 1).2.2.1) 49 (by rfl) (by rfl), rfl, rfl⟩
set_option maxRecDepth 20000 in
theorem fX0_18 : FLK RX0 18 0 2 (.array .int) := ⟨RX0, TX0, 8, tyX0, CLX0, by decide, gtbl_in (w := Cond.fieldLink RX0 18 RX0 (TX0 2).2.1 (TX0 2).2.2.1) 50 (by rfl) (by rfl), rfl, rfl⟩
set_option maxRecDepth 20000 in
theorem fX6_143 : FLK RX6 143 0 2 (.array .int) := ⟨RX0, TX0, 8, tyX0, CLX0, by decide, gtbl_in (w := Cond.fieldLink RX6 143 RX0 (TX0 2).2.1 (TX0 2).2.2.1) 51 (by rfl) (by rfl), rfl, rfl⟩
set_option maxRecDepth 20000 in
theorem fX0_25 : FLK RX0 25 0 3 .int := ⟨RX0, TX0, 8, tyX0, CLX0, by decide, gtbl_in (w := Cond.fieldLink RX0 25 RX0 (TX0 3).2.1 (TX0 3).2.2.1) 52 (by rfl) (by rfl), rfl, rfl⟩
set_option maxRecDepth 20000 in
theorem fX6_146 : FLK RX6 146 0 3 .int := ⟨RX0, TX0, 8, tyX0, CLX0, by decide, gtbl_in (w := Cond.fieldLink RX6 146 RX0 (TX0 3).2.1 (TX0 3).2.2.1) 53 (by rfl) (by rfl), rfl, rfl⟩
set_option maxRecDepth 20000 in
theorem fX0_28 : FLK RX0 28 0 4 .int := ⟨RX0, TX0, 8, tyX0, CLX0, by decide, gtbl_in (w := Cond.fieldLink RX0 28 RX0 (TX0 4).2.1 (TX0 4).2.2.1) 54 (by rfl) (by rfl), rfl, rfl⟩
set_option maxRecDepth 20000 in
theorem fX6_149 : FLK RX6 149 0 4 .int := ⟨RX0, TX0, 8, tyX0, CLX0, by decide, gtbl_in (w := Cond.fieldLink RX6 149 RX0 (TX0 4).2.1 (TX0 4).2.2.1) 55 (by rfl) (by rfl), rfl, rfl⟩
set_option maxRecDepth 20000 in
theorem fX0_31 : FLK RX0 31 0 5 .int := ⟨RX0, TX0, 8, tyX0, CLX0, by decide, gtbl_in (w := Cond.fieldLink RX0 31 RX0 (TX0 5).2.1 (TX0 5).2.2.1) 56 (by rfl) (by rfl), rfl, rfl⟩
set_option maxRecDepth 20000 in
theorem fX6_92 : FLK RX6 92 0 5 .int := ⟨RX0, TX0, 8, tyX0, CLX0, by decide, gtbl_in (w := Cond.fieldLink RX6 92 RX0 (TX0 5).2.1 (TX0 5).2.2.1) 57 (by rfl) (by rfl), rfl, rfl⟩
set_option maxRecDepth 20000 in
theorem fX0_21 : FLK RX0 21 0 6 .int := ⟨RX0, TX0, 8, tyX0, CLX0, by decide, gtbl_in (w := Cond.fieldLink RX0 21 RX0 (TX0 6).2.1 (TX0 6).2.2.1) 58 (by rfl) (by rfl), rfl, rfl⟩
set_option maxRecDepth 20000 in
theorem fX6_101 : FLK RX6 101 0 6 .int := ⟨RX0, TX0, 8, tyX0, CLX0, by decide, gtbl_in (w := Cond.fieldLink RX6 101 RX0 (TX0 6).2.1 (TX0 6).2.2.1) 59 (by rfl) (by rfl), rfl, rfl⟩
set_option maxRecDepth 20000 in
theorem fX0_34 : FLK RX0 34 0 7 .int := ⟨RX0, TX0, 8, tyX0, CLX0, by decide, gtbl_in (w := Cond.fieldLink RX0 34 RX0 (TX0 7).2.1 (TX0 7).2.2.1) 60 (by rfl) (by rfl), rfl, rfl⟩
set_option maxRecDepth 20000 in
theorem fX6_155 : FLK RX6 155 0 7 .int := ⟨RX0, TX0, 8, tyX0, CLX0, by decide, gtbl_in (w := Cond.fieldLink RX6 155 RX0 (TX0 7).2.1 (TX0 7).2.2.1) 61 (by rfl) (by rfl), rfl, rfl⟩
set_option maxRecDepth 20000 in
theorem fX3_9 : FLK RX3 9 3 0 (.array .int) := ⟨RX3, TX3, 2, tyX3, CLX3, by decide, gtbl_in (w := Cond.fieldLink RX3 9 RX3 (TX3 0).2.1 (TX3 0).2.2.1) 86 (by rfl) (by rfl), rfl, rfl⟩
set_option maxRecDepth 20000 in
theorem fX5_32 : FLK RX5 32 3 0 (.array .int) := ⟨RX3, TX3, 2, tyX3, CLX3, by decide, gtbl_in (w := Cond.fieldLink RX5 32 RX3 (TX3 0).2.1 (TX3 0).2.2.1) 87 (by rfl) (by rfl), rfl, rfl⟩
set_option maxRecDepth 20000 in
theorem fX3_15 : FLK RX3 15 3 1 .int := ⟨RX3, TX3, 2, tyX3, CLX3, by decide, gtbl_in (w := Cond.fieldLink RX3 15 RX3 (TX3 1).2.1 (TX3 1).2.2.1) 88 (by rfl) (by rfl), rfl, rfl⟩
set_option maxRecDepth 20000 in
theorem fX5_28 : FLK RX5 28 3 1 .int := ⟨RX3, TX3, 2, tyX3, CLX3, by decide, gtbl_in (w := Cond.fieldLink RX5 28 RX3 (TX3 1).2.1 (TX3 1).2.2.1) 89 (by rfl) (by rfl), rfl, rfl⟩
set_option maxRecDepth 20000 in
theorem fX6_111 : FLK RX6 111 3 1 .int := ⟨RX3, TX3, 2, tyX3, CLX3, by decide, gtbl_in (w := Cond.fieldLink RX6 111 RX3 (TX3 1).2.1 (TX3 1).2.2.1) 90 (by rfl) (by rfl), rfl, rfl⟩
set_option maxRecDepth 20000 in
theorem fX4_9 : FLK RX4 9 4 0 (.array .int) := ⟨RX4, TX4, 3, tyX4, CLX4, by decide, gtbl_in (w := Cond.fieldLink RX4 9 RX4 (TX4 0).2.1 (TX4 0).2.2.1) 102 (by rfl) (by rfl), rfl, rfl⟩
set_option maxRecDepth 20000 in
theorem fX4_15 : FLK RX4 15 4 1 (.array .int) := ⟨RX4, TX4, 3, tyX4, CLX4, by decide, gtbl_in (w := Cond.fieldLink RX4 15 RX4 (TX4 1).2.1 (TX4 1).2.2.1) 103 (by rfl) (by rfl), rfl, rfl⟩
set_option maxRecDepth 20000 in
theorem fX4_18 : FLK RX4 18 4 2 .int := ⟨RX4, TX4, 3, tyX4, CLX4, by decide, gtbl_in (w := Cond.fieldLink RX4 18 RX4 (TX4 2).2.1 (TX4 2).2.2.1) 104 (by rfl) (by rfl), rfl, rfl⟩
set_option maxRecDepth 20000 in
theorem fX6_206 : FLK RX6 206 4 2 .int := ⟨RX4, TX4, 3, tyX4, CLX4, by decide, gtbl_in (w := Cond.fieldLink RX6 206 RX4 (TX4 2).2.1 (TX4 2).2.2.1) 105 (by rfl) (by rfl), rfl, rfl⟩
set_option maxRecDepth 20000 in
theorem fX2_10 : FLK RX2 10 2 0 (.object "TurfHeaps$Clearing") := ⟨RX2, TX2, 3, tyX2, CLX2, by decide, gtbl_in (w := Cond.fieldLink RX2 10 RX2 (TX2 0).2.1 (TX2 0).2.2.1) 123 (by rfl) (by rfl), rfl, rfl⟩
set_option maxRecDepth 20000 in
theorem fX6_270 : FLK RX6 270 2 0 (.object "TurfHeaps$Clearing") := ⟨RX2, TX2, 3, tyX2, CLX2, by decide, gtbl_in (w := Cond.fieldLink RX6 270 RX2 (TX2 0).2.1 (TX2 0).2.2.1) 124 (by rfl) (by rfl), rfl, rfl⟩
set_option maxRecDepth 20000 in
theorem fX2_19 : FLK RX2 19 2 1 (.object "TurfHeaps$Sights") := ⟨RX2, TX2, 3, tyX2, CLX2, by decide, gtbl_in (w := Cond.fieldLink RX2 19 RX2 (TX2 1).2.1 (TX2 1).2.2.1) 125 (by rfl) (by rfl), rfl, rfl⟩
set_option maxRecDepth 20000 in
theorem fX6_273 : FLK RX6 273 2 1 (.object "TurfHeaps$Sights") := ⟨RX2, TX2, 3, tyX2, CLX2, by decide, gtbl_in (w := Cond.fieldLink RX6 273 RX2 (TX2 1).2.1 (TX2 1).2.2.1) 126 (by rfl) (by rfl), rfl, rfl⟩
set_option maxRecDepth 20000 in
theorem fX6_277 : FLK RX6 277 2 2 .boolean := ⟨RX2, TX2, 3, tyX2, CLX2, by decide, gtbl_in (w := Cond.fieldLink RX6 277 RX2 (TX2 2).2.1 (TX2 2).2.2.1) 127 (by rfl) (by rfl), rfl, rfl⟩
set_option maxRecDepth 20000 in
theorem fX5_12 : FLK RX5 12 5 0 (.object "TurfHeaps$Clearing") := ⟨RX5, TX5, 7, tyX5, CLX5, by decide, gtbl_in (w := Cond.fieldLink RX5 12 RX5 (TX5 0).2.1 (TX5 0).2.2.1) 143 (by rfl) (by rfl), rfl, rfl⟩
set_option maxRecDepth 20000 in
theorem fX6_128 : FLK RX6 128 5 0 (.object "TurfHeaps$Clearing") := ⟨RX5, TX5, 7, tyX5, CLX5, by decide, gtbl_in (w := Cond.fieldLink RX6 128 RX5 (TX5 0).2.1 (TX5 0).2.2.1) 144 (by rfl) (by rfl), rfl, rfl⟩
set_option maxRecDepth 20000 in
theorem fX5_48 : FLK RX5 48 5 1 .int := ⟨RX5, TX5, 7, tyX5, CLX5, by decide, gtbl_in (w := Cond.fieldLink RX5 48 RX5 (TX5 1).2.1 (TX5 1).2.2.1) 145 (by rfl) (by rfl), rfl, rfl⟩
set_option maxRecDepth 20000 in
theorem fX6_135 : FLK RX6 135 5 1 .int := ⟨RX5, TX5, 7, tyX5, CLX5, by decide, gtbl_in (w := Cond.fieldLink RX6 135 RX5 (TX5 1).2.1 (TX5 1).2.2.1) 146 (by rfl) (by rfl), rfl, rfl⟩
set_option maxRecDepth 20000 in
theorem fX5_51 : FLK RX5 51 5 2 .int := ⟨RX5, TX5, 7, tyX5, CLX5, by decide, gtbl_in (w := Cond.fieldLink RX5 51 RX5 (TX5 2).2.1 (TX5 2).2.2.1) 147 (by rfl) (by rfl), rfl, rfl⟩
set_option maxRecDepth 20000 in
theorem fX6_122 : FLK RX6 122 5 2 .int := ⟨RX5, TX5, 7, tyX5, CLX5, by decide, gtbl_in (w := Cond.fieldLink RX6 122 RX5 (TX5 2).2.1 (TX5 2).2.2.1) 148 (by rfl) (by rfl), rfl, rfl⟩
set_option maxRecDepth 20000 in
theorem fX5_54 : FLK RX5 54 5 3 .int := ⟨RX5, TX5, 7, tyX5, CLX5, by decide, gtbl_in (w := Cond.fieldLink RX5 54 RX5 (TX5 3).2.1 (TX5 3).2.2.1) 149 (by rfl) (by rfl), rfl, rfl⟩
set_option maxRecDepth 20000 in
theorem fX6_125 : FLK RX6 125 5 3 .int := ⟨RX5, TX5, 7, tyX5, CLX5, by decide, gtbl_in (w := Cond.fieldLink RX6 125 RX5 (TX5 3).2.1 (TX5 3).2.2.1) 150 (by rfl) (by rfl), rfl, rfl⟩
set_option maxRecDepth 20000 in
theorem fX5_67 : FLK RX5 67 5 4 .int := ⟨RX5, TX5, 7, tyX5, CLX5, by decide, gtbl_in (w := Cond.fieldLink RX5 67 RX5 (TX5 4).2.1 (TX5 4).2.2.1) 151 (by rfl) (by rfl), rfl, rfl⟩
set_option maxRecDepth 20000 in
theorem fX6_152 : FLK RX6 152 5 4 .int := ⟨RX5, TX5, 7, tyX5, CLX5, by decide, gtbl_in (w := Cond.fieldLink RX6 152 RX5 (TX5 4).2.1 (TX5 4).2.2.1) 152 (by rfl) (by rfl), rfl, rfl⟩
set_option maxRecDepth 20000 in
theorem fX5_70 : FLK RX5 70 5 5 .int := ⟨RX5, TX5, 7, tyX5, CLX5, by decide, gtbl_in (w := Cond.fieldLink RX5 70 RX5 (TX5 5).2.1 (TX5 5).2.2.1) 153 (by rfl) (by rfl), rfl, rfl⟩
set_option maxRecDepth 20000 in
theorem fX6_158 : FLK RX6 158 5 5 .int := ⟨RX5, TX5, 7, tyX5, CLX5, by decide, gtbl_in (w := Cond.fieldLink RX6 158 RX5 (TX5 5).2.1 (TX5 5).2.2.1) 154 (by rfl) (by rfl), rfl, rfl⟩
set_option maxRecDepth 20000 in
theorem fX5_73 : FLK RX5 73 5 6 .int := ⟨RX5, TX5, 7, tyX5, CLX5, by decide, gtbl_in (w := Cond.fieldLink RX5 73 RX5 (TX5 6).2.1 (TX5 6).2.2.1) 155 (by rfl) (by rfl), rfl, rfl⟩
set_option maxRecDepth 20000 in
theorem fX6_161 : FLK RX6 161 5 6 .int := ⟨RX5, TX5, 7, tyX5, CLX5, by decide, gtbl_in (w := Cond.fieldLink RX6 161 RX5 (TX5 6).2.1 (TX5 6).2.2.1) 156 (by rfl) (by rfl), rfl, rfl⟩
set_option maxRecDepth 20000 in
theorem fX1_9 : FLK RX1 9 1 0 (.array .int) := ⟨RX1, TX1, 2, tyX1, CLX1, by decide, gtbl_in (w := Cond.fieldLink RX1 9 RX1 (TX1 0).2.1 (TX1 0).2.2.1) 178 (by rfl) (by rfl), rfl, rfl⟩
set_option maxRecDepth 20000 in
theorem fX1_15 : FLK RX1 15 1 1 (.array .int) := ⟨RX1, TX1, 2, tyX1, CLX1, by decide, gtbl_in (w := Cond.fieldLink RX1 15 RX1 (TX1 1).2.1 (TX1 1).2.2.1) 179 (by rfl) (by rfl), rfl, rfl⟩
set_option maxRecDepth 20000 in
theorem fX6_12 : FLK RX6 12 6 0 (.object "TurfHeaps$Clearing") := ⟨RX6, TX6, 10, tyX6, CLX6, by decide, gtbl_in (w := Cond.fieldLink RX6 12 RX6 (TX6 0).2.1 (TX6 0).2.2.1) 185 (by rfl) (by rfl), rfl, rfl⟩
set_option maxRecDepth 20000 in
theorem fX6_19 : FLK RX6 19 6 1 (.object "TurfHeaps$Pad") := ⟨RX6, TX6, 10, tyX6, CLX6, by decide, gtbl_in (w := Cond.fieldLink RX6 19 RX6 (TX6 1).2.1 (TX6 1).2.2.1) 186 (by rfl) (by rfl), rfl, rfl⟩
set_option maxRecDepth 20000 in
theorem fX6_26 : FLK RX6 26 6 2 (.object "TurfHeaps$Sights") := ⟨RX6, TX6, 10, tyX6, CLX6, by decide, gtbl_in (w := Cond.fieldLink RX6 26 RX6 (TX6 2).2.1 (TX6 2).2.2.1) 187 (by rfl) (by rfl), rfl, rfl⟩
set_option maxRecDepth 20000 in
theorem fX6_33 : FLK RX6 33 6 3 (.object "TurfHeaps$Image") := ⟨RX6, TX6, 10, tyX6, CLX6, by decide, gtbl_in (w := Cond.fieldLink RX6 33 RX6 (TX6 3).2.1 (TX6 3).2.2.1) 188 (by rfl) (by rfl), rfl, rfl⟩
set_option maxRecDepth 20000 in
theorem fX6_37 : FLK RX6 37 6 4 (.object "TurfHeaps$Image") := ⟨RX6, TX6, 10, tyX6, CLX6, by decide, gtbl_in (w := Cond.fieldLink RX6 37 RX6 (TX6 4).2.1 (TX6 4).2.2.1) 189 (by rfl) (by rfl), rfl, rfl⟩
set_option maxRecDepth 20000 in
theorem fX6_43 : FLK RX6 43 6 5 (.object "TurfHeaps$Week") := ⟨RX6, TX6, 10, tyX6, CLX6, by decide, gtbl_in (w := Cond.fieldLink RX6 43 RX6 (TX6 5).2.1 (TX6 5).2.2.1) 190 (by rfl) (by rfl), rfl, rfl⟩
set_option maxRecDepth 20000 in
theorem fX6_50 : FLK RX6 50 6 6 (.object "TurfHeaps$DueRows") := ⟨RX6, TX6, 10, tyX6, CLX6, by decide, gtbl_in (w := Cond.fieldLink RX6 50 RX6 (TX6 6).2.1 (TX6 6).2.2.1) 191 (by rfl) (by rfl), rfl, rfl⟩
set_option maxRecDepth 20000 in
theorem fX6_54 : FLK RX6 54 6 7 (.array .int) := ⟨RX6, TX6, 10, tyX6, CLX6, by decide, gtbl_in (w := Cond.fieldLink RX6 54 RX6 (TX6 7).2.1 (TX6 7).2.2.1) 192 (by rfl) (by rfl), rfl, rfl⟩
set_option maxRecDepth 20000 in
theorem fX6_58 : FLK RX6 58 6 8 (.array .int) := ⟨RX6, TX6, 10, tyX6, CLX6, by decide, gtbl_in (w := Cond.fieldLink RX6 58 RX6 (TX6 8).2.1 (TX6 8).2.2.1) 193 (by rfl) (by rfl), rfl, rfl⟩
set_option maxRecDepth 20000 in
theorem fX6_61 : FLK RX6 61 6 9 .int := ⟨RX6, TX6, 10, tyX6, CLX6, by decide, gtbl_in (w := Cond.fieldLink RX6 61 RX6 (TX6 9).2.1 (TX6 9).2.2.1) 194 (by rfl) (by rfl), rfl, rfl⟩
set_option maxRecDepth 20000 in
theorem fX7_7 : FLK RX7 7 7 0 (.array .int) := ⟨RX7, TX7, 20, tyX7, CLX7, by decide, gtbl_in (w := Cond.fieldLink RX7 7 RX7 (TX7 0).2.1 (TX7 0).2.2.1) 545 (by rfl) (by rfl), rfl, rfl⟩
set_option maxRecDepth 20000 in
theorem fX7_13 : FLK RX7 13 7 1 (.array .int) := ⟨RX7, TX7, 20, tyX7, CLX7, by decide, gtbl_in (w := Cond.fieldLink RX7 13 RX7 (TX7 1).2.1 (TX7 1).2.2.1) 546 (by rfl) (by rfl), rfl, rfl⟩
set_option maxRecDepth 20000 in
theorem fX7_16 : FLK RX7 16 7 2 .int := ⟨RX7, TX7, 20, tyX7, CLX7, by decide, gtbl_in (w := Cond.fieldLink RX7 16 RX7 (TX7 2).2.1 (TX7 2).2.2.1) 547 (by rfl) (by rfl), rfl, rfl⟩
set_option maxRecDepth 20000 in
theorem fX7_131 : FLK RX7 131 7 3 .int := ⟨RX7, TX7, 20, tyX7, CLX7, by decide, gtbl_in (w := Cond.fieldLink RX7 131 RX7 (TX7 3).2.1 (TX7 3).2.2.1) 548 (by rfl) (by rfl), rfl, rfl⟩
set_option maxRecDepth 20000 in
theorem fX7_20 : FLK RX7 20 7 4 (.array .int) := ⟨RX7, TX7, 20, tyX7, CLX7, by decide, gtbl_in (w := Cond.fieldLink RX7 20 RX7 (TX7 4).2.1 (TX7 4).2.2.1) 549 (by rfl) (by rfl), rfl, rfl⟩
set_option maxRecDepth 20000 in
theorem fX7_60 : FLK RX7 60 7 5 .int := ⟨RX7, TX7, 20, tyX7, CLX7, by decide, gtbl_in (w := Cond.fieldLink RX7 60 RX7 (TX7 5).2.1 (TX7 5).2.2.1) 550 (by rfl) (by rfl), rfl, rfl⟩
set_option maxRecDepth 20000 in
theorem fX7_23 : FLK RX7 23 7 6 (.array .int) := ⟨RX7, TX7, 20, tyX7, CLX7, by decide, gtbl_in (w := Cond.fieldLink RX7 23 RX7 (TX7 6).2.1 (TX7 6).2.2.1) 551 (by rfl) (by rfl), rfl, rfl⟩
set_option maxRecDepth 20000 in
theorem fX7_67 : FLK RX7 67 7 7 .int := ⟨RX7, TX7, 20, tyX7, CLX7, by decide, gtbl_in (w := Cond.fieldLink RX7 67 RX7 (TX7 7).2.1 (TX7 7).2.2.1) 552 (by rfl) (by rfl), rfl, rfl⟩
set_option maxRecDepth 20000 in
theorem fX7_70 : FLK RX7 70 7 8 .int := ⟨RX7, TX7, 20, tyX7, CLX7, by decide, gtbl_in (w := Cond.fieldLink RX7 70 RX7 (TX7 8).2.1 (TX7 8).2.2.1) 553 (by rfl) (by rfl), rfl, rfl⟩
set_option maxRecDepth 20000 in
theorem fX7_73 : FLK RX7 73 7 9 .int := ⟨RX7, TX7, 20, tyX7, CLX7, by decide, gtbl_in (w := Cond.fieldLink RX7 73 RX7 (TX7 9).2.1 (TX7 9).2.2.1) 554 (by rfl) (by rfl), rfl, rfl⟩
set_option maxRecDepth 20000 in
theorem fX7_90 : FLK RX7 90 7 10 .int := ⟨RX7, TX7, 20, tyX7, CLX7, by decide, gtbl_in (w := Cond.fieldLink RX7 90 RX7 (TX7 10).2.1 (TX7 10).2.2.1) 555 (by rfl) (by rfl), rfl, rfl⟩
set_option maxRecDepth 20000 in
theorem fX7_102 : FLK RX7 102 7 11 .int := ⟨RX7, TX7, 20, tyX7, CLX7, by decide, gtbl_in (w := Cond.fieldLink RX7 102 RX7 (TX7 11).2.1 (TX7 11).2.2.1) 556 (by rfl) (by rfl), rfl, rfl⟩
set_option maxRecDepth 20000 in
theorem fX7_96 : FLK RX7 96 7 12 .int := ⟨RX7, TX7, 20, tyX7, CLX7, by decide, gtbl_in (w := Cond.fieldLink RX7 96 RX7 (TX7 12).2.1 (TX7 12).2.2.1) 557 (by rfl) (by rfl), rfl, rfl⟩
set_option maxRecDepth 20000 in
theorem fX7_26 : FLK RX7 26 7 13 (.array .int) := ⟨RX7, TX7, 20, tyX7, CLX7, by decide, gtbl_in (w := Cond.fieldLink RX7 26 RX7 (TX7 13).2.1 (TX7 13).2.2.1) 558 (by rfl) (by rfl), rfl, rfl⟩
set_option maxRecDepth 20000 in
theorem fX7_29 : FLK RX7 29 7 14 (.array .int) := ⟨RX7, TX7, 20, tyX7, CLX7, by decide, gtbl_in (w := Cond.fieldLink RX7 29 RX7 (TX7 14).2.1 (TX7 14).2.2.1) 559 (by rfl) (by rfl), rfl, rfl⟩
set_option maxRecDepth 20000 in
theorem fX7_32 : FLK RX7 32 7 15 (.array .int) := ⟨RX7, TX7, 20, tyX7, CLX7, by decide, gtbl_in (w := Cond.fieldLink RX7 32 RX7 (TX7 15).2.1 (TX7 15).2.2.1) 560 (by rfl) (by rfl), rfl, rfl⟩
set_option maxRecDepth 20000 in
theorem fX7_35 : FLK RX7 35 7 16 (.array .int) := ⟨RX7, TX7, 20, tyX7, CLX7, by decide, gtbl_in (w := Cond.fieldLink RX7 35 RX7 (TX7 16).2.1 (TX7 16).2.2.1) 561 (by rfl) (by rfl), rfl, rfl⟩
set_option maxRecDepth 20000 in
theorem fX7_38 : FLK RX7 38 7 17 (.array .boolean) := ⟨RX7, TX7, 20, tyX7, CLX7, by decide, gtbl_in (w := Cond.fieldLink RX7 38 RX7 (TX7 17).2.1 (TX7 17).2.2.1) 562 (by rfl) (by rfl), rfl, rfl⟩
set_option maxRecDepth 20000 in
theorem fX7_42 : FLK RX7 42 7 18 (.array .int) := ⟨RX7, TX7, 20, tyX7, CLX7, by decide, gtbl_in (w := Cond.fieldLink RX7 42 RX7 (TX7 18).2.1 (TX7 18).2.2.1) 563 (by rfl) (by rfl), rfl, rfl⟩
set_option maxRecDepth 20000 in
theorem fX7_45 : FLK RX7 45 7 19 (.array .boolean) := ⟨RX7, TX7, 20, tyX7, CLX7, by decide, gtbl_in (w := Cond.fieldLink RX7 45 RX7 (TX7 19).2.1 (TX7 19).2.2.1) 564 (by rfl) (by rfl), rfl, rfl⟩
set_option maxRecDepth 20000 in
theorem qX6_284 : Cond.constantLong RX6 284 (5) ∈ gtbl := gtbl_in (w := Cond.constantLong RX6 284 (5)) 223 (by rfl) (by rfl)
set_option maxRecDepth 20000 in
theorem qX6_69 : Cond.constantLong RX6 69 (-1) ∈ gtbl := gtbl_in (w := Cond.constantLong RX6 69 (-1)) 227 (by rfl) (by rfl)
set_option maxRecDepth 20000 in
theorem qX6_71 : Cond.constantLong RX6 71 (24) ∈ gtbl := gtbl_in (w := Cond.constantLong RX6 71 (24)) 228 (by rfl) (by rfl)
set_option maxRecDepth 20000 in
theorem qX6_77 : Cond.constantLong RX6 77 (9) ∈ gtbl := gtbl_in (w := Cond.constantLong RX6 77 (9)) 229 (by rfl) (by rfl)
set_option maxRecDepth 20000 in
theorem qX6_90 : Cond.constantLong RX6 90 (6) ∈ gtbl := gtbl_in (w := Cond.constantLong RX6 90 (6)) 242 (by rfl) (by rfl)
set_option maxRecDepth 20000 in
theorem qJ6_265 : Cond.constant RJ6 265 (1431655765) ∈ gtbl := gtbl_in (w := Cond.constant RJ6 265 (1431655765)) 246 (by rfl) (by rfl)
set_option maxRecDepth 20000 in
theorem qJ6_266 : Cond.constant RJ6 266 (858993459) ∈ gtbl := gtbl_in (w := Cond.constant RJ6 266 (858993459)) 247 (by rfl) (by rfl)
set_option maxRecDepth 20000 in
theorem qJ6_267 : Cond.constant RJ6 267 (252645135) ∈ gtbl := gtbl_in (w := Cond.constant RJ6 267 (252645135)) 248 (by rfl) (by rfl)
set_option maxRecDepth 20000 in
theorem qX6_104 : Cond.constantLong RX6 104 (33) ∈ gtbl := gtbl_in (w := Cond.constantLong RX6 104 (33)) 253 (by rfl) (by rfl)
set_option maxRecDepth 20000 in
theorem qX6_106 : Cond.constantLong RX6 106 (126) ∈ gtbl := gtbl_in (w := Cond.constantLong RX6 106 (126)) 254 (by rfl) (by rfl)
set_option maxRecDepth 20000 in
theorem qX3_26 : Cond.constantLong RX3 26 (65) ∈ gtbl := gtbl_in (w := Cond.constantLong RX3 26 (65)) 274 (by rfl) (by rfl)
set_option maxRecDepth 20000 in
theorem qX3_28 : Cond.constantLong RX3 28 (70) ∈ gtbl := gtbl_in (w := Cond.constantLong RX3 28 (70)) 275 (by rfl) (by rfl)
set_option maxRecDepth 20000 in
theorem qX3_34 : Cond.constantLong RX3 34 (97) ∈ gtbl := gtbl_in (w := Cond.constantLong RX3 34 (97)) 283 (by rfl) (by rfl)
set_option maxRecDepth 20000 in
theorem qX3_36 : Cond.constantLong RX3 36 (121) ∈ gtbl := gtbl_in (w := Cond.constantLong RX3 36 (121)) 284 (by rfl) (by rfl)
set_option maxRecDepth 20000 in
theorem qX6_138 : Cond.constantLong RX6 138 (2) ∈ gtbl := gtbl_in (w := Cond.constantLong RX6 138 (2)) 360 (by rfl) (by rfl)
set_option maxRecDepth 20000 in
theorem qX6_177 : Cond.constantLong RX6 177 (8) ∈ gtbl := gtbl_in (w := Cond.constantLong RX6 177 (8)) 391 (by rfl) (by rfl)
set_option maxRecDepth 20000 in
theorem qX1_18 : Cond.constantLong RX1 18 (100) ∈ gtbl := gtbl_in (w := Cond.constantLong RX1 18 (100)) 400 (by rfl) (by rfl)
set_option maxRecDepth 20000 in
theorem qX6_189 : Cond.constantLong RX6 189 (9999) ∈ gtbl := gtbl_in (w := Cond.constantLong RX6 189 (9999)) 419 (by rfl) (by rfl)
set_option maxRecDepth 20000 in
theorem qX6_202 : Cond.constantLong RX6 202 (20) ∈ gtbl := gtbl_in (w := Cond.constantLong RX6 202 (20)) 433 (by rfl) (by rfl)
set_option maxRecDepth 20000 in
theorem qX6_226 : Cond.constantLong RX6 226 (60) ∈ gtbl := gtbl_in (w := Cond.constantLong RX6 226 (60)) 475 (by rfl) (by rfl)
set_option maxRecDepth 20000 in
theorem qX6_238 : Cond.constantLong RX6 238 (10) ∈ gtbl := gtbl_in (w := Cond.constantLong RX6 238 (10)) 492 (by rfl) (by rfl)
set_option maxRecDepth 20000 in
theorem qX6_240 : Cond.constantLong RX6 240 (-1000000000000000002) ∈ gtbl := gtbl_in (w := Cond.constantLong RX6 240 (-1000000000000000002)) 493 (by rfl) (by rfl)
set_option maxRecDepth 20000 in
theorem qX6_242 : Cond.constantLong RX6 242 (100) ∈ gtbl := gtbl_in (w := Cond.constantLong RX6 242 (100)) 494 (by rfl) (by rfl)
set_option maxRecDepth 20000 in
theorem qX6_252 : Cond.constantLong RX6 252 (99) ∈ gtbl := gtbl_in (w := Cond.constantLong RX6 252 (99)) 505 (by rfl) (by rfl)
set_option maxRecDepth 20000 in
theorem qX6_254 : Cond.constant RX6 254 (65537) ∈ gtbl := gtbl_in (w := Cond.constant RX6 254 (65537)) 506 (by rfl) (by rfl)
set_option maxRecDepth 20000 in
theorem qX7_126 : Cond.constantLong RX7 126 (100) ∈ gtbl := gtbl_in (w := Cond.constantLong RX7 126 (100)) 717 (by rfl) (by rfl)
set_option maxRecDepth 20000 in
theorem qX7_140 : Cond.constant RX7 140 (1000000) ∈ gtbl := gtbl_in (w := Cond.constant RX7 140 (1000000)) 749 (by rfl) (by rfl)
set_option maxRecDepth 20000 in
theorem qX7_145 : Cond.constantLong RX7 145 (-1000000000000000002) ∈ gtbl := gtbl_in (w := Cond.constantLong RX7 145 (-1000000000000000002)) 762 (by rfl) (by rfl)
set_option maxRecDepth 20000 in
theorem qX7_151 : Cond.constant RX7 151 (65537) ∈ gtbl := gtbl_in (w := Cond.constant RX7 151 (65537)) 770 (by rfl) (by rfl)
set_option maxRecDepth 20000 in
theorem qL_62 : Cond.constantLong RL 62 (4294967295) ∈ gtbl := gtbl_in (w := Cond.constantLong RL 62 (4294967295)) 783 (by rfl) (by rfl)
abbrev YX0_init : MY := (RX0, cX0_init, 2, none, none)
abbrev YX0_copyFrom : MY := (RX0, cX0_copyFrom, 3, none, none)
set_option maxRecDepth 20000 in
theorem MX0_copyFrom : MTH yX0_copyFrom YX0_copyFrom 1 := ⟨gtbl_in (w := Cond.initialized RX0) 23 (by rfl) (by rfl), gtbl_in (w := Cond.code yX0_copyFrom cX0_copyFrom 3 none) 300 (by rfl) (by rfl), by decide +kernel, by decide +kernel, rfl, rfl, by decide⟩
set_option maxRecDepth 20000 in
theorem iX0_copyFrom : Cond.instanceMethod yX0_copyFrom ∈ gtbl := gtbl_in (w := Cond.instanceMethod yX0_copyFrom) 298 (by rfl) (by rfl)
set_option maxRecDepth 20000 in
theorem vX0_copyFrom : Cond.selects yX0_copyFrom.cls yX0_copyFrom yX0_copyFrom ∈ gtbl := gtbl_in (w := Cond.selects yX0_copyFrom.cls yX0_copyFrom yX0_copyFrom) 299 (by rfl) (by rfl)
abbrev YX0_put : MY := (RX0, cX0_put, 5, none, none)
set_option maxRecDepth 20000 in
theorem MX0_put : MTH yX0_put YX0_put 4 := ⟨gtbl_in (w := Cond.initialized RX0) 23 (by rfl) (by rfl), gtbl_in (w := Cond.code yX0_put cX0_put 5 none) 237 (by rfl) (by rfl), by decide +kernel, by decide +kernel, rfl, rfl, by decide⟩
set_option maxRecDepth 20000 in
theorem iX0_put : Cond.instanceMethod yX0_put ∈ gtbl := gtbl_in (w := Cond.instanceMethod yX0_put) 235 (by rfl) (by rfl)
set_option maxRecDepth 20000 in
theorem vX0_put : Cond.selects yX0_put.cls yX0_put yX0_put ∈ gtbl := gtbl_in (w := Cond.selects yX0_put.cls yX0_put yX0_put) 236 (by rfl) (by rfl)
abbrev YX0_isAlight : MY := (RX0, cX0_isAlight, 2, (some .boolean), none)
set_option maxRecDepth 20000 in
theorem MX0_isAlight : MTH yX0_isAlight YX0_isAlight 1 := ⟨gtbl_in (w := Cond.initialized RX0) 23 (by rfl) (by rfl), gtbl_in (w := Cond.code yX0_isAlight cX0_isAlight 2 (some .boolean)) 314 (by rfl) (by rfl), by decide +kernel, by decide +kernel, rfl, rfl, by decide⟩
set_option maxRecDepth 20000 in
theorem iX0_isAlight : Cond.instanceMethod yX0_isAlight ∈ gtbl := gtbl_in (w := Cond.instanceMethod yX0_isAlight) 312 (by rfl) (by rfl)
set_option maxRecDepth 20000 in
theorem vX0_isAlight : Cond.selects yX0_isAlight.cls yX0_isAlight yX0_isAlight ∈ gtbl := gtbl_in (w := Cond.selects yX0_isAlight.cls yX0_isAlight yX0_isAlight) 313 (by rfl) (by rfl)
abbrev YX0_isTakenByAnother : MY := (RX0, cX0_isTakenByAnother, 4, (some .boolean), none)
set_option maxRecDepth 20000 in
theorem MX0_isTakenByAnother : MTH yX0_isTakenByAnother YX0_isTakenByAnother 2 := ⟨gtbl_in (w := Cond.initialized RX0) 23 (by rfl) (by rfl), gtbl_in (w := Cond.code yX0_isTakenByAnother cX0_isTakenByAnother 4 (some .boolean)) 233 (by rfl) (by rfl), by decide +kernel, by decide +kernel, rfl, rfl, by decide⟩
set_option maxRecDepth 20000 in
theorem iX0_isTakenByAnother : Cond.instanceMethod yX0_isTakenByAnother ∈ gtbl := gtbl_in (w := Cond.instanceMethod yX0_isTakenByAnother) 231 (by rfl) (by rfl)
set_option maxRecDepth 20000 in
theorem vX0_isTakenByAnother : Cond.selects yX0_isTakenByAnother.cls yX0_isTakenByAnother yX0_isTakenByAnother ∈ gtbl := gtbl_in (w := Cond.selects yX0_isTakenByAnother.cls yX0_isTakenByAnother yX0_isTakenByAnother) 232 (by rfl) (by rfl)
abbrev YX0_heatOfAll : MY := (RX0, cX0_heatOfAll, 3, (some .int), none)
set_option maxRecDepth 20000 in
theorem MX0_heatOfAll : MTH yX0_heatOfAll YX0_heatOfAll 0 := ⟨gtbl_in (w := Cond.initialized RX0) 23 (by rfl) (by rfl), gtbl_in (w := Cond.code yX0_heatOfAll cX0_heatOfAll 3 (some .int)) 518 (by rfl) (by rfl), by decide +kernel, by decide +kernel, rfl, rfl, by decide⟩
set_option maxRecDepth 20000 in
theorem iX0_heatOfAll : Cond.instanceMethod yX0_heatOfAll ∈ gtbl := gtbl_in (w := Cond.instanceMethod yX0_heatOfAll) 516 (by rfl) (by rfl)
set_option maxRecDepth 20000 in
theorem vX0_heatOfAll : Cond.selects yX0_heatOfAll.cls yX0_heatOfAll yX0_heatOfAll ∈ gtbl := gtbl_in (w := Cond.selects yX0_heatOfAll.cls yX0_heatOfAll yX0_heatOfAll) 517 (by rfl) (by rfl)
abbrev YX0_areNear : MY := (RX0, cX0_areNear, 7, (some .boolean), none)
set_option maxRecDepth 20000 in
theorem MX0_areNear : MTH yX0_areNear YX0_areNear 2 := ⟨gtbl_in (w := Cond.initialized RX0) 23 (by rfl) (by rfl), gtbl_in (w := Cond.code yX0_areNear cX0_areNear 7 (some .boolean)) 338 (by rfl) (by rfl), by decide +kernel, by decide +kernel, rfl, rfl, by decide⟩
set_option maxRecDepth 20000 in
theorem iX0_areNear : Cond.instanceMethod yX0_areNear ∈ gtbl := gtbl_in (w := Cond.instanceMethod yX0_areNear) 336 (by rfl) (by rfl)
set_option maxRecDepth 20000 in
theorem vX0_areNear : Cond.selects yX0_areNear.cls yX0_areNear yX0_areNear ∈ gtbl := gtbl_in (w := Cond.selects yX0_areNear.cls yX0_areNear yX0_areNear) 337 (by rfl) (by rfl)
abbrev YX0_countNear : MY := (RX0, cX0_countNear, 5, (some .int), none)
set_option maxRecDepth 20000 in
theorem MX0_countNear : MTH yX0_countNear YX0_countNear 2 := ⟨gtbl_in (w := Cond.initialized RX0) 23 (by rfl) (by rfl), gtbl_in (w := Cond.code yX0_countNear cX0_countNear 5 (some .int)) 334 (by rfl) (by rfl), by decide +kernel, by decide +kernel, rfl, rfl, by decide⟩
set_option maxRecDepth 20000 in
theorem iX0_countNear : Cond.instanceMethod yX0_countNear ∈ gtbl := gtbl_in (w := Cond.instanceMethod yX0_countNear) 332 (by rfl) (by rfl)
set_option maxRecDepth 20000 in
theorem vX0_countNear : Cond.selects yX0_countNear.cls yX0_countNear yX0_countNear ∈ gtbl := gtbl_in (w := Cond.selects yX0_countNear.cls yX0_countNear yX0_countNear) 333 (by rfl) (by rfl)
abbrev YX0_flaringBy : MY := (RX0, cX0_flaringBy, 7, (some .int), none)
set_option maxRecDepth 20000 in
theorem MX0_flaringBy : MTH yX0_flaringBy YX0_flaringBy 2 := ⟨gtbl_in (w := Cond.initialized RX0) 23 (by rfl) (by rfl), gtbl_in (w := Cond.code yX0_flaringBy cX0_flaringBy 7 (some .int)) 373 (by rfl) (by rfl), by decide +kernel, by decide +kernel, rfl, rfl, by decide⟩
set_option maxRecDepth 20000 in
theorem iX0_flaringBy : Cond.instanceMethod yX0_flaringBy ∈ gtbl := gtbl_in (w := Cond.instanceMethod yX0_flaringBy) 371 (by rfl) (by rfl)
set_option maxRecDepth 20000 in
theorem vX0_flaringBy : Cond.selects yX0_flaringBy.cls yX0_flaringBy yX0_flaringBy ∈ gtbl := gtbl_in (w := Cond.selects yX0_flaringBy.cls yX0_flaringBy yX0_flaringBy) 372 (by rfl) (by rfl)
abbrev YX0_canCatch : MY := (RX0, cX0_canCatch, 3, (some .boolean), none)
set_option maxRecDepth 20000 in
theorem MX0_canCatch : MTH yX0_canCatch YX0_canCatch 2 := ⟨gtbl_in (w := Cond.initialized RX0) 23 (by rfl) (by rfl), gtbl_in (w := Cond.code yX0_canCatch cX0_canCatch 3 (some .boolean)) 377 (by rfl) (by rfl), by decide +kernel, by decide +kernel, rfl, rfl, by decide⟩
set_option maxRecDepth 20000 in
theorem iX0_canCatch : Cond.instanceMethod yX0_canCatch ∈ gtbl := gtbl_in (w := Cond.instanceMethod yX0_canCatch) 375 (by rfl) (by rfl)
set_option maxRecDepth 20000 in
theorem vX0_canCatch : Cond.selects yX0_canCatch.cls yX0_canCatch yX0_canCatch ∈ gtbl := gtbl_in (w := Cond.selects yX0_canCatch.cls yX0_canCatch yX0_canCatch) 376 (by rfl) (by rfl)
abbrev YX0_reasonAgainst : MY := (RX0, cX0_reasonAgainst, 4, (some .int), none)
set_option maxRecDepth 20000 in
theorem MX0_reasonAgainst : MTH yX0_reasonAgainst YX0_reasonAgainst 3 := ⟨gtbl_in (w := Cond.initialized RX0) 23 (by rfl) (by rfl), gtbl_in (w := Cond.code yX0_reasonAgainst cX0_reasonAgainst 4 (some .int)) 309 (by rfl) (by rfl), by decide +kernel, by decide +kernel, rfl, rfl, by decide⟩
set_option maxRecDepth 20000 in
theorem iX0_reasonAgainst : Cond.instanceMethod yX0_reasonAgainst ∈ gtbl := gtbl_in (w := Cond.instanceMethod yX0_reasonAgainst) 307 (by rfl) (by rfl)
set_option maxRecDepth 20000 in
theorem vX0_reasonAgainst : Cond.selects yX0_reasonAgainst.cls yX0_reasonAgainst yX0_reasonAgainst ∈ gtbl := gtbl_in (w := Cond.selects yX0_reasonAgainst.cls yX0_reasonAgainst yX0_reasonAgainst) 308 (by rfl) (by rfl)
abbrev YX0_perform : MY := (RX0, cX0_perform, 4, (some .int), none)
set_option maxRecDepth 20000 in
theorem MX0_perform : MTH yX0_perform YX0_perform 3 := ⟨gtbl_in (w := Cond.initialized RX0) 23 (by rfl) (by rfl), gtbl_in (w := Cond.code yX0_perform cX0_perform 4 (some .int)) 322 (by rfl) (by rfl), by decide +kernel, by decide +kernel, rfl, rfl, by decide⟩
set_option maxRecDepth 20000 in
theorem iX0_perform : Cond.instanceMethod yX0_perform ∈ gtbl := gtbl_in (w := Cond.instanceMethod yX0_perform) 320 (by rfl) (by rfl)
set_option maxRecDepth 20000 in
theorem vX0_perform : Cond.selects yX0_perform.cls yX0_perform yX0_perform ∈ gtbl := gtbl_in (w := Cond.selects yX0_perform.cls yX0_perform yX0_perform) 321 (by rfl) (by rfl)
abbrev YX0_passNight : MY := (RX0, cX0_passNight, 3, (some .int), none)
set_option maxRecDepth 20000 in
theorem MX0_passNight : MTH yX0_passNight YX0_passNight 0 := ⟨gtbl_in (w := Cond.initialized RX0) 23 (by rfl) (by rfl), gtbl_in (w := Cond.code yX0_passNight cX0_passNight 3 (some .int)) 326 (by rfl) (by rfl), by decide +kernel, by decide +kernel, rfl, rfl, by decide⟩
set_option maxRecDepth 20000 in
theorem iX0_passNight : Cond.instanceMethod yX0_passNight ∈ gtbl := gtbl_in (w := Cond.instanceMethod yX0_passNight) 324 (by rfl) (by rfl)
set_option maxRecDepth 20000 in
theorem vX0_passNight : Cond.selects yX0_passNight.cls yX0_passNight yX0_passNight ∈ gtbl := gtbl_in (w := Cond.selects yX0_passNight.cls yX0_passNight yX0_passNight) 325 (by rfl) (by rfl)
abbrev YX0_smoulder : MY := (RX0, cX0_smoulder, 4, (some .boolean), none)
set_option maxRecDepth 20000 in
theorem MX0_smoulder : MTH yX0_smoulder YX0_smoulder 1 := ⟨gtbl_in (w := Cond.initialized RX0) 23 (by rfl) (by rfl), gtbl_in (w := Cond.code yX0_smoulder cX0_smoulder 4 (some .boolean)) 330 (by rfl) (by rfl), by decide +kernel, by decide +kernel, rfl, rfl, by decide⟩
set_option maxRecDepth 20000 in
theorem iX0_smoulder : Cond.instanceMethod yX0_smoulder ∈ gtbl := gtbl_in (w := Cond.instanceMethod yX0_smoulder) 328 (by rfl) (by rfl)
set_option maxRecDepth 20000 in
theorem vX0_smoulder : Cond.selects yX0_smoulder.cls yX0_smoulder yX0_smoulder ∈ gtbl := gtbl_in (w := Cond.selects yX0_smoulder.cls yX0_smoulder yX0_smoulder) 329 (by rfl) (by rfl)
abbrev YX1_init : MY := (RX1, cX1_init, 1, none, none)
abbrev YX1_readNights : MY := (RX1, cX1_readNights, 6, (some .boolean), none)
set_option maxRecDepth 20000 in
theorem MX1_readNights : MTH yX1_readNights YX1_readNights 2 := ⟨gtbl_in (w := Cond.initialized RX1) 28 (by rfl) (by rfl), gtbl_in (w := Cond.code yX1_readNights cX1_readNights 6 (some .boolean)) 395 (by rfl) (by rfl), by decide +kernel, by decide +kernel, rfl, rfl, by decide⟩
set_option maxRecDepth 20000 in
theorem iX1_readNights : Cond.instanceMethod yX1_readNights ∈ gtbl := gtbl_in (w := Cond.instanceMethod yX1_readNights) 393 (by rfl) (by rfl)
set_option maxRecDepth 20000 in
theorem vX1_readNights : Cond.selects yX1_readNights.cls yX1_readNights yX1_readNights ∈ gtbl := gtbl_in (w := Cond.selects yX1_readNights.cls yX1_readNights yX1_readNights) 394 (by rfl) (by rfl)
abbrev YX1_readDays : MY := (RX1, cX1_readDays, 7, (some .boolean), none)
set_option maxRecDepth 20000 in
theorem MX1_readDays : MTH yX1_readDays YX1_readDays 2 := ⟨gtbl_in (w := Cond.initialized RX1) 28 (by rfl) (by rfl), gtbl_in (w := Cond.code yX1_readDays cX1_readDays 7 (some .boolean)) 399 (by rfl) (by rfl), by decide +kernel, by decide +kernel, rfl, rfl, by decide⟩
set_option maxRecDepth 20000 in
theorem iX1_readDays : Cond.instanceMethod yX1_readDays ∈ gtbl := gtbl_in (w := Cond.instanceMethod yX1_readDays) 397 (by rfl) (by rfl)
set_option maxRecDepth 20000 in
theorem vX1_readDays : Cond.selects yX1_readDays.cls yX1_readDays yX1_readDays ∈ gtbl := gtbl_in (w := Cond.selects yX1_readDays.cls yX1_readDays yX1_readDays) 398 (by rfl) (by rfl)
abbrev YX1_mostInTime : MY := (RX1, cX1_mostInTime, 4, (some .int), none)
set_option maxRecDepth 20000 in
theorem MX1_mostInTime : MTH yX1_mostInTime YX1_mostInTime 1 := ⟨gtbl_in (w := Cond.initialized RX1) 28 (by rfl) (by rfl), gtbl_in (w := Cond.code yX1_mostInTime cX1_mostInTime 4 (some .int)) 404 (by rfl) (by rfl), by decide +kernel, by decide +kernel, rfl, rfl, by decide⟩
set_option maxRecDepth 20000 in
theorem iX1_mostInTime : Cond.instanceMethod yX1_mostInTime ∈ gtbl := gtbl_in (w := Cond.instanceMethod yX1_mostInTime) 402 (by rfl) (by rfl)
set_option maxRecDepth 20000 in
theorem vX1_mostInTime : Cond.selects yX1_mostInTime.cls yX1_mostInTime yX1_mostInTime ∈ gtbl := gtbl_in (w := Cond.selects yX1_mostInTime.cls yX1_mostInTime yX1_mostInTime) 403 (by rfl) (by rfl)
abbrev YX1_areInTime : MY := (RX1, cX1_areInTime, 4, (some .boolean), none)
set_option maxRecDepth 20000 in
theorem MX1_areInTime : MTH yX1_areInTime YX1_areInTime 2 := ⟨gtbl_in (w := Cond.initialized RX1) 28 (by rfl) (by rfl), gtbl_in (w := Cond.code yX1_areInTime cX1_areInTime 4 (some .boolean)) 409 (by rfl) (by rfl), by decide +kernel, by decide +kernel, rfl, rfl, by decide⟩
set_option maxRecDepth 20000 in
theorem iX1_areInTime : Cond.instanceMethod yX1_areInTime ∈ gtbl := gtbl_in (w := Cond.instanceMethod yX1_areInTime) 407 (by rfl) (by rfl)
set_option maxRecDepth 20000 in
theorem vX1_areInTime : Cond.selects yX1_areInTime.cls yX1_areInTime yX1_areInTime ∈ gtbl := gtbl_in (w := Cond.selects yX1_areInTime.cls yX1_areInTime yX1_areInTime) 408 (by rfl) (by rfl)
abbrev YX1_nightsUntil : MY := (RX1, cX1_nightsUntil, 6, (some .int), none)
set_option maxRecDepth 20000 in
theorem MX1_nightsUntil : MTH yX1_nightsUntil YX1_nightsUntil 3 := ⟨gtbl_in (w := Cond.initialized RX1) 28 (by rfl) (by rfl), gtbl_in (w := Cond.code yX1_nightsUntil cX1_nightsUntil 6 (some .int)) 414 (by rfl) (by rfl), by decide +kernel, by decide +kernel, rfl, rfl, by decide⟩
set_option maxRecDepth 20000 in
theorem iX1_nightsUntil : Cond.instanceMethod yX1_nightsUntil ∈ gtbl := gtbl_in (w := Cond.instanceMethod yX1_nightsUntil) 412 (by rfl) (by rfl)
set_option maxRecDepth 20000 in
theorem vX1_nightsUntil : Cond.selects yX1_nightsUntil.cls yX1_nightsUntil yX1_nightsUntil ∈ gtbl := gtbl_in (w := Cond.selects yX1_nightsUntil.cls yX1_nightsUntil yX1_nightsUntil) 413 (by rfl) (by rfl)
abbrev YX2_init : MY := (RX2, cX2_init, 1, none, none)
abbrev YX3_init : MY := (RX3, cX3_init, 1, none, none)
abbrev YX3_append : MY := (RX3, cX3_append, 2, (some .boolean), none)
set_option maxRecDepth 20000 in
theorem MX3_append : MTH yX3_append YX3_append 1 := ⟨gtbl_in (w := Cond.initialized RX3) 24 (by rfl) (by rfl), gtbl_in (w := Cond.code yX3_append cX3_append 2 (some .boolean)) 258 (by rfl) (by rfl), by decide +kernel, by decide +kernel, rfl, rfl, by decide⟩
set_option maxRecDepth 20000 in
theorem iX3_append : Cond.instanceMethod yX3_append ∈ gtbl := gtbl_in (w := Cond.instanceMethod yX3_append) 256 (by rfl) (by rfl)
set_option maxRecDepth 20000 in
theorem vX3_append : Cond.selects yX3_append.cls yX3_append yX3_append ∈ gtbl := gtbl_in (w := Cond.selects yX3_append.cls yX3_append yX3_append) 257 (by rfl) (by rfl)
abbrev YX3_faultPlace : MY := (RX3, cX3_faultPlace, 5, (some .int), none)
set_option maxRecDepth 20000 in
theorem MX3_faultPlace : MTH yX3_faultPlace YX3_faultPlace 0 := ⟨gtbl_in (w := Cond.initialized RX3) 24 (by rfl) (by rfl), gtbl_in (w := Cond.code yX3_faultPlace cX3_faultPlace 5 (some .int)) 270 (by rfl) (by rfl), by decide +kernel, by decide +kernel, rfl, rfl, by decide⟩
set_option maxRecDepth 20000 in
theorem iX3_faultPlace : Cond.instanceMethod yX3_faultPlace ∈ gtbl := gtbl_in (w := Cond.instanceMethod yX3_faultPlace) 268 (by rfl) (by rfl)
set_option maxRecDepth 20000 in
theorem vX3_faultPlace : Cond.selects yX3_faultPlace.cls yX3_faultPlace yX3_faultPlace ∈ gtbl := gtbl_in (w := Cond.selects yX3_faultPlace.cls yX3_faultPlace yX3_faultPlace) 269 (by rfl) (by rfl)
abbrev YX3_isHeapLetter : MY := (RX3, cX3_isHeapLetter, 1, (some .boolean), none)
set_option maxRecDepth 20000 in
theorem MX3_isHeapLetter : MTH yX3_isHeapLetter YX3_isHeapLetter 1 := ⟨gtbl_in (w := Cond.initialized RX3) 24 (by rfl) (by rfl), gtbl_in (w := Cond.code yX3_isHeapLetter cX3_isHeapLetter 1 (some .boolean)) 273 (by rfl) (by rfl), by decide +kernel, by decide +kernel, rfl, rfl, by decide⟩
set_option maxRecDepth 20000 in
theorem sX3_isHeapLetter : Cond.static yX3_isHeapLetter ∈ gtbl := gtbl_in (w := Cond.static yX3_isHeapLetter) 272 (by rfl) (by rfl)
abbrev YX3_isCellLetter : MY := (RX3, cX3_isCellLetter, 1, (some .boolean), none)
set_option maxRecDepth 20000 in
theorem MX3_isCellLetter : MTH yX3_isCellLetter YX3_isCellLetter 1 := ⟨gtbl_in (w := Cond.initialized RX3) 24 (by rfl) (by rfl), gtbl_in (w := Cond.code yX3_isCellLetter cX3_isCellLetter 1 (some .boolean)) 282 (by rfl) (by rfl), by decide +kernel, by decide +kernel, rfl, rfl, by decide⟩
set_option maxRecDepth 20000 in
theorem sX3_isCellLetter : Cond.static yX3_isCellLetter ∈ gtbl := gtbl_in (w := Cond.static yX3_isCellLetter) 281 (by rfl) (by rfl)
abbrev YX3_isDeed : MY := (RX3, cX3_isDeed, 1, (some .boolean), none)
set_option maxRecDepth 20000 in
theorem MX3_isDeed : MTH yX3_isDeed YX3_isDeed 1 := ⟨gtbl_in (w := Cond.initialized RX3) 24 (by rfl) (by rfl), gtbl_in (w := Cond.code yX3_isDeed cX3_isDeed 1 (some .boolean)) 279 (by rfl) (by rfl), by decide +kernel, by decide +kernel, rfl, rfl, by decide⟩
set_option maxRecDepth 20000 in
theorem sX3_isDeed : Cond.static yX3_isDeed ∈ gtbl := gtbl_in (w := Cond.static yX3_isDeed) 278 (by rfl) (by rfl)
abbrev YX3_kindOf : MY := (RX3, cX3_kindOf, 1, (some .int), none)
set_option maxRecDepth 20000 in
theorem MX3_kindOf : MTH yX3_kindOf YX3_kindOf 1 := ⟨gtbl_in (w := Cond.initialized RX3) 24 (by rfl) (by rfl), gtbl_in (w := Cond.code yX3_kindOf cX3_kindOf 1 (some .int)) 305 (by rfl) (by rfl), by decide +kernel, by decide +kernel, rfl, rfl, by decide⟩
set_option maxRecDepth 20000 in
theorem sX3_kindOf : Cond.static yX3_kindOf ∈ gtbl := gtbl_in (w := Cond.static yX3_kindOf) 304 (by rfl) (by rfl)
abbrev YX4_init : MY := (RX4, cX4_init, 1, none, none)
abbrev YX4_copyFrom : MY := (RX4, cX4_copyFrom, 3, none, none)
set_option maxRecDepth 20000 in
theorem MX4_copyFrom : MTH yX4_copyFrom YX4_copyFrom 1 := ⟨gtbl_in (w := Cond.initialized RX4) 25 (by rfl) (by rfl), gtbl_in (w := Cond.code yX4_copyFrom cX4_copyFrom 3 none) 526 (by rfl) (by rfl), by decide +kernel, by decide +kernel, rfl, rfl, by decide⟩
set_option maxRecDepth 20000 in
theorem iX4_copyFrom : Cond.instanceMethod yX4_copyFrom ∈ gtbl := gtbl_in (w := Cond.instanceMethod yX4_copyFrom) 524 (by rfl) (by rfl)
set_option maxRecDepth 20000 in
theorem vX4_copyFrom : Cond.selects yX4_copyFrom.cls yX4_copyFrom yX4_copyFrom ∈ gtbl := gtbl_in (w := Cond.selects yX4_copyFrom.cls yX4_copyFrom yX4_copyFrom) 525 (by rfl) (by rfl)
abbrev YX4_append : MY := (RX4, cX4_append, 3, (some .boolean), none)
set_option maxRecDepth 20000 in
theorem MX4_append : MTH yX4_append YX4_append 2 := ⟨gtbl_in (w := Cond.initialized RX4) 25 (by rfl) (by rfl), gtbl_in (w := Cond.code yX4_append cX4_append 3 (some .boolean)) 437 (by rfl) (by rfl), by decide +kernel, by decide +kernel, rfl, rfl, by decide⟩
set_option maxRecDepth 20000 in
theorem iX4_append : Cond.instanceMethod yX4_append ∈ gtbl := gtbl_in (w := Cond.instanceMethod yX4_append) 435 (by rfl) (by rfl)
set_option maxRecDepth 20000 in
theorem vX4_append : Cond.selects yX4_append.cls yX4_append yX4_append ∈ gtbl := gtbl_in (w := Cond.selects yX4_append.cls yX4_append yX4_append) 436 (by rfl) (by rfl)
abbrev YX4_fit : MY := (RX4, cX4_fit, 4, (some .boolean), none)
set_option maxRecDepth 20000 in
theorem MX4_fit : MTH yX4_fit YX4_fit 2 := ⟨gtbl_in (w := Cond.initialized RX4) 25 (by rfl) (by rfl), gtbl_in (w := Cond.code yX4_fit cX4_fit 4 (some .boolean)) 453 (by rfl) (by rfl), by decide +kernel, by decide +kernel, rfl, rfl, by decide⟩
set_option maxRecDepth 20000 in
theorem iX4_fit : Cond.instanceMethod yX4_fit ∈ gtbl := gtbl_in (w := Cond.instanceMethod yX4_fit) 451 (by rfl) (by rfl)
set_option maxRecDepth 20000 in
theorem vX4_fit : Cond.selects yX4_fit.cls yX4_fit yX4_fit ∈ gtbl := gtbl_in (w := Cond.selects yX4_fit.cls yX4_fit yX4_fit) 452 (by rfl) (by rfl)
abbrev YX4_listFitting : MY := (RX4, cX4_listFitting, 5, (some .int), none)
set_option maxRecDepth 20000 in
theorem MX4_listFitting : MTH yX4_listFitting YX4_listFitting 1 := ⟨gtbl_in (w := Cond.initialized RX4) 25 (by rfl) (by rfl), gtbl_in (w := Cond.code yX4_listFitting cX4_listFitting 5 (some .int)) 449 (by rfl) (by rfl), by decide +kernel, by decide +kernel, rfl, rfl, by decide⟩
set_option maxRecDepth 20000 in
theorem iX4_listFitting : Cond.instanceMethod yX4_listFitting ∈ gtbl := gtbl_in (w := Cond.instanceMethod yX4_listFitting) 447 (by rfl) (by rfl)
set_option maxRecDepth 20000 in
theorem vX4_listFitting : Cond.selects yX4_listFitting.cls yX4_listFitting yX4_listFitting ∈ gtbl := gtbl_in (w := Cond.selects yX4_listFitting.cls yX4_listFitting yX4_listFitting) 448 (by rfl) (by rfl)
abbrev YX5_init : MY := (RX5, cX5_init, 1, none, none)
abbrev YX5_tryOut : MY := (RX5, cX5_tryOut, 9, (some .boolean), none)
set_option maxRecDepth 20000 in
theorem MX5_tryOut : MTH yX5_tryOut YX5_tryOut 2 := ⟨gtbl_in (w := Cond.initialized RX5) 27 (by rfl) (by rfl), gtbl_in (w := Cond.code yX5_tryOut cX5_tryOut 9 (some .boolean)) 292 (by rfl) (by rfl), by decide +kernel, by decide +kernel, rfl, rfl, by decide⟩
set_option maxRecDepth 20000 in
theorem iX5_tryOut : Cond.instanceMethod yX5_tryOut ∈ gtbl := gtbl_in (w := Cond.instanceMethod yX5_tryOut) 290 (by rfl) (by rfl)
set_option maxRecDepth 20000 in
theorem vX5_tryOut : Cond.selects yX5_tryOut.cls yX5_tryOut yX5_tryOut ∈ gtbl := gtbl_in (w := Cond.selects yX5_tryOut.cls yX5_tryOut yX5_tryOut) 291 (by rfl) (by rfl)
abbrev YX5_begin : MY := (RX5, cX5_begin, 2, none, none)
set_option maxRecDepth 20000 in
theorem MX5_begin : MTH yX5_begin YX5_begin 1 := ⟨gtbl_in (w := Cond.initialized RX5) 27 (by rfl) (by rfl), gtbl_in (w := Cond.code yX5_begin cX5_begin 2 none) 296 (by rfl) (by rfl), by decide +kernel, by decide +kernel, rfl, rfl, by decide⟩
set_option maxRecDepth 20000 in
theorem iX5_begin : Cond.instanceMethod yX5_begin ∈ gtbl := gtbl_in (w := Cond.instanceMethod yX5_begin) 294 (by rfl) (by rfl)
set_option maxRecDepth 20000 in
theorem vX5_begin : Cond.selects yX5_begin.cls yX5_begin yX5_begin ∈ gtbl := gtbl_in (w := Cond.selects yX5_begin.cls yX5_begin yX5_begin) 295 (by rfl) (by rfl)
abbrev YX5_noteFlares : MY := (RX5, cX5_noteFlares, 3, none, none)
set_option maxRecDepth 20000 in
theorem MX5_noteFlares : MTH yX5_noteFlares YX5_noteFlares 1 := ⟨gtbl_in (w := Cond.initialized RX5) 27 (by rfl) (by rfl), gtbl_in (w := Cond.code yX5_noteFlares cX5_noteFlares 3 none) 348 (by rfl) (by rfl), by decide +kernel, by decide +kernel, rfl, rfl, by decide⟩
set_option maxRecDepth 20000 in
theorem iX5_noteFlares : Cond.instanceMethod yX5_noteFlares ∈ gtbl := gtbl_in (w := Cond.instanceMethod yX5_noteFlares) 346 (by rfl) (by rfl)
set_option maxRecDepth 20000 in
theorem vX5_noteFlares : Cond.selects yX5_noteFlares.cls yX5_noteFlares yX5_noteFlares ∈ gtbl := gtbl_in (w := Cond.selects yX5_noteFlares.cls yX5_noteFlares yX5_noteFlares) 347 (by rfl) (by rfl)
abbrev YX6_init : MY := (RX6, cX6_init, 1, none, none)
abbrev YX6_heap : MY := (RX6, cX6_heap, 7, (some .int), none)
set_option maxRecDepth 20000 in
theorem MX6_heap : MTH yX6_heap YX6_heap 4 := ⟨gtbl_in (w := Cond.initialized RX6) 22 (by rfl) (by rfl), gtbl_in (w := Cond.code yX6_heap cX6_heap 7 (some .int)) 219 (by rfl) (by rfl), by decide +kernel, by decide +kernel, rfl, rfl, by decide⟩
set_option maxRecDepth 20000 in
theorem iX6_heap : Cond.instanceMethod yX6_heap ∈ gtbl := gtbl_in (w := Cond.instanceMethod yX6_heap) 217 (by rfl) (by rfl)
set_option maxRecDepth 20000 in
theorem vX6_heap : Cond.selects yX6_heap.cls yX6_heap yX6_heap ∈ gtbl := gtbl_in (w := Cond.selects yX6_heap.cls yX6_heap yX6_heap) 218 (by rfl) (by rfl)
abbrev YX6_burners : MY := (RX6, cX6_burners, 3, (some .int), none)
set_option maxRecDepth 20000 in
theorem MX6_burners : MTH yX6_burners YX6_burners 1 := ⟨gtbl_in (w := Cond.initialized RX6) 22 (by rfl) (by rfl), gtbl_in (w := Cond.code yX6_burners cX6_burners 3 (some .int)) 241 (by rfl) (by rfl), by decide +kernel, by decide +kernel, rfl, rfl, by decide⟩
set_option maxRecDepth 20000 in
theorem iX6_burners : Cond.instanceMethod yX6_burners ∈ gtbl := gtbl_in (w := Cond.instanceMethod yX6_burners) 239 (by rfl) (by rfl)
set_option maxRecDepth 20000 in
theorem vX6_burners : Cond.selects yX6_burners.cls yX6_burners yX6_burners ∈ gtbl := gtbl_in (w := Cond.selects yX6_burners.cls yX6_burners yX6_burners) 240 (by rfl) (by rfl)
abbrev YX6_say : MY := (RX6, cX6_say, 2, (some .int), none)
set_option maxRecDepth 20000 in
theorem MX6_say : MTH yX6_say YX6_say 1 := ⟨gtbl_in (w := Cond.initialized RX6) 22 (by rfl) (by rfl), gtbl_in (w := Cond.code yX6_say cX6_say 2 (some .int)) 252 (by rfl) (by rfl), by decide +kernel, by decide +kernel, rfl, rfl, by decide⟩
set_option maxRecDepth 20000 in
theorem iX6_say : Cond.instanceMethod yX6_say ∈ gtbl := gtbl_in (w := Cond.instanceMethod yX6_say) 250 (by rfl) (by rfl)
set_option maxRecDepth 20000 in
theorem vX6_say : Cond.selects yX6_say.cls yX6_say yX6_say ∈ gtbl := gtbl_in (w := Cond.selects yX6_say.cls yX6_say yX6_say) 251 (by rfl) (by rfl)
abbrev YX6_wipe : MY := (RX6, cX6_wipe, 2, (some .int), none)
set_option maxRecDepth 20000 in
theorem MX6_wipe : MTH yX6_wipe YX6_wipe 0 := ⟨gtbl_in (w := Cond.initialized RX6) 22 (by rfl) (by rfl), gtbl_in (w := Cond.code yX6_wipe cX6_wipe 2 (some .int)) 262 (by rfl) (by rfl), by decide +kernel, by decide +kernel, rfl, rfl, by decide⟩
set_option maxRecDepth 20000 in
theorem iX6_wipe : Cond.instanceMethod yX6_wipe ∈ gtbl := gtbl_in (w := Cond.instanceMethod yX6_wipe) 260 (by rfl) (by rfl)
set_option maxRecDepth 20000 in
theorem vX6_wipe : Cond.selects yX6_wipe.cls yX6_wipe yX6_wipe ∈ gtbl := gtbl_in (w := Cond.selects yX6_wipe.cls yX6_wipe yX6_wipe) 261 (by rfl) (by rfl)
abbrev YX6_fault : MY := (RX6, cX6_fault, 1, (some .int), none)
set_option maxRecDepth 20000 in
theorem MX6_fault : MTH yX6_fault YX6_fault 0 := ⟨gtbl_in (w := Cond.initialized RX6) 22 (by rfl) (by rfl), gtbl_in (w := Cond.code yX6_fault cX6_fault 1 (some .int)) 266 (by rfl) (by rfl), by decide +kernel, by decide +kernel, rfl, rfl, by decide⟩
set_option maxRecDepth 20000 in
theorem iX6_fault : Cond.instanceMethod yX6_fault ∈ gtbl := gtbl_in (w := Cond.instanceMethod yX6_fault) 264 (by rfl) (by rfl)
set_option maxRecDepth 20000 in
theorem vX6_fault : Cond.selects yX6_fault.cls yX6_fault yX6_fault ∈ gtbl := gtbl_in (w := Cond.selects yX6_fault.cls yX6_fault yX6_fault) 265 (by rfl) (by rfl)
abbrev YX6_judge : MY := (RX6, cX6_judge, 2, (some .int), none)
set_option maxRecDepth 20000 in
theorem MX6_judge : MTH yX6_judge YX6_judge 1 := ⟨gtbl_in (w := Cond.initialized RX6) 22 (by rfl) (by rfl), gtbl_in (w := Cond.code yX6_judge cX6_judge 2 (some .int)) 288 (by rfl) (by rfl), by decide +kernel, by decide +kernel, rfl, rfl, by decide⟩
set_option maxRecDepth 20000 in
theorem iX6_judge : Cond.instanceMethod yX6_judge ∈ gtbl := gtbl_in (w := Cond.instanceMethod yX6_judge) 286 (by rfl) (by rfl)
set_option maxRecDepth 20000 in
theorem vX6_judge : Cond.selects yX6_judge.cls yX6_judge yX6_judge ∈ gtbl := gtbl_in (w := Cond.selects yX6_judge.cls yX6_judge yX6_judge) 287 (by rfl) (by rfl)
abbrev YX6_done : MY := (RX6, cX6_done, 1, (some .int), none)
set_option maxRecDepth 20000 in
theorem MX6_done : MTH yX6_done YX6_done 0 := ⟨gtbl_in (w := Cond.initialized RX6) 22 (by rfl) (by rfl), gtbl_in (w := Cond.code yX6_done cX6_done 1 (some .int)) 354 (by rfl) (by rfl), by decide +kernel, by decide +kernel, rfl, rfl, by decide⟩
set_option maxRecDepth 20000 in
theorem iX6_done : Cond.instanceMethod yX6_done ∈ gtbl := gtbl_in (w := Cond.instanceMethod yX6_done) 352 (by rfl) (by rfl)
set_option maxRecDepth 20000 in
theorem vX6_done : Cond.selects yX6_done.cls yX6_done yX6_done ∈ gtbl := gtbl_in (w := Cond.selects yX6_done.cls yX6_done yX6_done) 353 (by rfl) (by rfl)
abbrev YX6_behind : MY := (RX6, cX6_behind, 3, (some .int), none)
set_option maxRecDepth 20000 in
theorem MX6_behind : MTH yX6_behind YX6_behind 2 := ⟨gtbl_in (w := Cond.initialized RX6) 22 (by rfl) (by rfl), gtbl_in (w := Cond.code yX6_behind cX6_behind 3 (some .int)) 359 (by rfl) (by rfl), by decide +kernel, by decide +kernel, rfl, rfl, by decide⟩
set_option maxRecDepth 20000 in
theorem iX6_behind : Cond.instanceMethod yX6_behind ∈ gtbl := gtbl_in (w := Cond.instanceMethod yX6_behind) 357 (by rfl) (by rfl)
set_option maxRecDepth 20000 in
theorem vX6_behind : Cond.selects yX6_behind.cls yX6_behind yX6_behind ∈ gtbl := gtbl_in (w := Cond.selects yX6_behind.cls yX6_behind yX6_behind) 358 (by rfl) (by rfl)
abbrev YX6_then : MY := (RX6, cX6_then, 2, (some .int), none)
set_option maxRecDepth 20000 in
theorem MX6_then : MTH yX6_then YX6_then 1 := ⟨gtbl_in (w := Cond.initialized RX6) 22 (by rfl) (by rfl), gtbl_in (w := Cond.code yX6_then cX6_then 2 (some .int)) 364 (by rfl) (by rfl), by decide +kernel, by decide +kernel, rfl, rfl, by decide⟩
set_option maxRecDepth 20000 in
theorem iX6_then : Cond.instanceMethod yX6_then ∈ gtbl := gtbl_in (w := Cond.instanceMethod yX6_then) 362 (by rfl) (by rfl)
set_option maxRecDepth 20000 in
theorem vX6_then : Cond.selects yX6_then.cls yX6_then yX6_then ∈ gtbl := gtbl_in (w := Cond.selects yX6_then.cls yX6_then yX6_then) 363 (by rfl) (by rfl)
abbrev YX6_chain : MY := (RX6, cX6_chain, 2, (some .int), none)
set_option maxRecDepth 20000 in
theorem MX6_chain : MTH yX6_chain YX6_chain 1 := ⟨gtbl_in (w := Cond.initialized RX6) 22 (by rfl) (by rfl), gtbl_in (w := Cond.code yX6_chain cX6_chain 2 (some .int)) 368 (by rfl) (by rfl), by decide +kernel, by decide +kernel, rfl, rfl, by decide⟩
set_option maxRecDepth 20000 in
theorem iX6_chain : Cond.instanceMethod yX6_chain ∈ gtbl := gtbl_in (w := Cond.instanceMethod yX6_chain) 366 (by rfl) (by rfl)
set_option maxRecDepth 20000 in
theorem vX6_chain : Cond.selects yX6_chain.cls yX6_chain yX6_chain ∈ gtbl := gtbl_in (w := Cond.selects yX6_chain.cls yX6_chain yX6_chain) 367 (by rfl) (by rfl)
abbrev YX6_cover : MY := (RX6, cX6_cover, 5, (some .int), none)
set_option maxRecDepth 20000 in
theorem MX6_cover : MTH yX6_cover YX6_cover 3 := ⟨gtbl_in (w := Cond.initialized RX6) 22 (by rfl) (by rfl), gtbl_in (w := Cond.code yX6_cover cX6_cover 5 (some .int)) 381 (by rfl) (by rfl), by decide +kernel, by decide +kernel, rfl, rfl, by decide⟩
set_option maxRecDepth 20000 in
theorem iX6_cover : Cond.instanceMethod yX6_cover ∈ gtbl := gtbl_in (w := Cond.instanceMethod yX6_cover) 379 (by rfl) (by rfl)
set_option maxRecDepth 20000 in
theorem vX6_cover : Cond.selects yX6_cover.cls yX6_cover yX6_cover ∈ gtbl := gtbl_in (w := Cond.selects yX6_cover.cls yX6_cover yX6_cover) 380 (by rfl) (by rfl)
abbrev YX6_fewestCovered : MY := (RX6, cX6_fewestCovered, 8, (some .int), none)
set_option maxRecDepth 20000 in
theorem MX6_fewestCovered : MTH yX6_fewestCovered YX6_fewestCovered 2 := ⟨gtbl_in (w := Cond.initialized RX6) 22 (by rfl) (by rfl), gtbl_in (w := Cond.code yX6_fewestCovered cX6_fewestCovered 8 (some .int)) 385 (by rfl) (by rfl), by decide +kernel, by decide +kernel, rfl, rfl, by decide⟩
set_option maxRecDepth 20000 in
theorem iX6_fewestCovered : Cond.instanceMethod yX6_fewestCovered ∈ gtbl := gtbl_in (w := Cond.instanceMethod yX6_fewestCovered) 384 (by rfl) (by rfl)
set_option maxRecDepth 20000 in
theorem vX6_fewestCovered : Cond.selects yX6_fewestCovered.cls yX6_fewestCovered yX6_fewestCovered ∈ gtbl := gtbl_in (w := Cond.selects yX6_fewestCovered.cls yX6_fewestCovered yX6_fewestCovered) 0 (by rfl) (by rfl)
abbrev YX6_due : MY := (RX6, cX6_due, 7, (some .int), none)
set_option maxRecDepth 20000 in
theorem MX6_due : MTH yX6_due YX6_due 4 := ⟨gtbl_in (w := Cond.initialized RX6) 22 (by rfl) (by rfl), gtbl_in (w := Cond.code yX6_due cX6_due 7 (some .int)) 390 (by rfl) (by rfl), by decide +kernel, by decide +kernel, rfl, rfl, by decide⟩
set_option maxRecDepth 20000 in
theorem iX6_due : Cond.instanceMethod yX6_due ∈ gtbl := gtbl_in (w := Cond.instanceMethod yX6_due) 388 (by rfl) (by rfl)
set_option maxRecDepth 20000 in
theorem vX6_due : Cond.selects yX6_due.cls yX6_due yX6_due ∈ gtbl := gtbl_in (w := Cond.selects yX6_due.cls yX6_due yX6_due) 389 (by rfl) (by rfl)
abbrev YX6_nods : MY := (RX6, cX6_nods, 9, (some .int), none)
set_option maxRecDepth 20000 in
theorem MX6_nods : MTH yX6_nods YX6_nods 6 := ⟨gtbl_in (w := Cond.initialized RX6) 22 (by rfl) (by rfl), gtbl_in (w := Cond.code yX6_nods cX6_nods 9 (some .int)) 418 (by rfl) (by rfl), by decide +kernel, by decide +kernel, rfl, rfl, by decide⟩
set_option maxRecDepth 20000 in
theorem iX6_nods : Cond.instanceMethod yX6_nods ∈ gtbl := gtbl_in (w := Cond.instanceMethod yX6_nods) 416 (by rfl) (by rfl)
set_option maxRecDepth 20000 in
theorem vX6_nods : Cond.selects yX6_nods.cls yX6_nods yX6_nods ∈ gtbl := gtbl_in (w := Cond.selects yX6_nods.cls yX6_nods yX6_nods) 417 (by rfl) (by rfl)
abbrev YX6_nightsAsleep : MY := (RX6, cX6_nightsAsleep, 7, (some .int), none)
set_option maxRecDepth 20000 in
theorem MX6_nightsAsleep : MTH yX6_nightsAsleep YX6_nightsAsleep 5 := ⟨gtbl_in (w := Cond.initialized RX6) 22 (by rfl) (by rfl), gtbl_in (w := Cond.code yX6_nightsAsleep cX6_nightsAsleep 7 (some .int)) 428 (by rfl) (by rfl), by decide +kernel, by decide +kernel, rfl, rfl, by decide⟩
set_option maxRecDepth 20000 in
theorem sX6_nightsAsleep : Cond.static yX6_nightsAsleep ∈ gtbl := gtbl_in (w := Cond.static yX6_nightsAsleep) 427 (by rfl) (by rfl)
abbrev YX6_firstNightAsleep : MY := (RX6, cX6_firstNightAsleep, 6, (some .int), none)
set_option maxRecDepth 20000 in
theorem MX6_firstNightAsleep : MTH yX6_firstNightAsleep YX6_firstNightAsleep 5 := ⟨gtbl_in (w := Cond.initialized RX6) 22 (by rfl) (by rfl), gtbl_in (w := Cond.code yX6_firstNightAsleep cX6_firstNightAsleep 6 (some .int)) 422 (by rfl) (by rfl), by decide +kernel, by decide +kernel, rfl, rfl, by decide⟩
set_option maxRecDepth 20000 in
theorem sX6_firstNightAsleep : Cond.static yX6_firstNightAsleep ∈ gtbl := gtbl_in (w := Cond.static yX6_firstNightAsleep) 421 (by rfl) (by rfl)
abbrev YX6_isAsleep : MY := (RX6, cX6_isAsleep, 4, (some .boolean), none)
set_option maxRecDepth 20000 in
theorem MX6_isAsleep : MTH yX6_isAsleep YX6_isAsleep 3 := ⟨gtbl_in (w := Cond.initialized RX6) 22 (by rfl) (by rfl), gtbl_in (w := Cond.code yX6_isAsleep cX6_isAsleep 4 (some .boolean)) 425 (by rfl) (by rfl), by decide +kernel, by decide +kernel, rfl, rfl, by decide⟩
set_option maxRecDepth 20000 in
theorem sX6_isAsleep : Cond.static yX6_isAsleep ∈ gtbl := gtbl_in (w := Cond.static yX6_isAsleep) 424 (by rfl) (by rfl)
abbrev YX6_seen : MY := (RX6, cX6_seen, 3, (some .int), none)
set_option maxRecDepth 20000 in
theorem MX6_seen : MTH yX6_seen YX6_seen 2 := ⟨gtbl_in (w := Cond.initialized RX6) 22 (by rfl) (by rfl), gtbl_in (w := Cond.code yX6_seen cX6_seen 3 (some .int)) 432 (by rfl) (by rfl), by decide +kernel, by decide +kernel, rfl, rfl, by decide⟩
set_option maxRecDepth 20000 in
theorem iX6_seen : Cond.instanceMethod yX6_seen ∈ gtbl := gtbl_in (w := Cond.instanceMethod yX6_seen) 430 (by rfl) (by rfl)
set_option maxRecDepth 20000 in
theorem vX6_seen : Cond.selects yX6_seen.cls yX6_seen yX6_seen ∈ gtbl := gtbl_in (w := Cond.selects yX6_seen.cls yX6_seen yX6_seen) 431 (by rfl) (by rfl)
abbrev YX6_forget : MY := (RX6, cX6_forget, 2, (some .int), none)
set_option maxRecDepth 20000 in
theorem MX6_forget : MTH yX6_forget YX6_forget 0 := ⟨gtbl_in (w := Cond.initialized RX6) 22 (by rfl) (by rfl), gtbl_in (w := Cond.code yX6_forget cX6_forget 2 (some .int)) 441 (by rfl) (by rfl), by decide +kernel, by decide +kernel, rfl, rfl, by decide⟩
set_option maxRecDepth 20000 in
theorem iX6_forget : Cond.instanceMethod yX6_forget ∈ gtbl := gtbl_in (w := Cond.instanceMethod yX6_forget) 439 (by rfl) (by rfl)
set_option maxRecDepth 20000 in
theorem vX6_forget : Cond.selects yX6_forget.cls yX6_forget yX6_forget ∈ gtbl := gtbl_in (w := Cond.selects yX6_forget.cls yX6_forget yX6_forget) 440 (by rfl) (by rfl)
abbrev YX6_matter : MY := (RX6, cX6_matter, 3, (some .int), none)
set_option maxRecDepth 20000 in
theorem MX6_matter : MTH yX6_matter YX6_matter 1 := ⟨gtbl_in (w := Cond.initialized RX6) 22 (by rfl) (by rfl), gtbl_in (w := Cond.code yX6_matter cX6_matter 3 (some .int)) 445 (by rfl) (by rfl), by decide +kernel, by decide +kernel, rfl, rfl, by decide⟩
set_option maxRecDepth 20000 in
theorem iX6_matter : Cond.instanceMethod yX6_matter ∈ gtbl := gtbl_in (w := Cond.instanceMethod yX6_matter) 443 (by rfl) (by rfl)
set_option maxRecDepth 20000 in
theorem vX6_matter : Cond.selects yX6_matter.cls yX6_matter yX6_matter ∈ gtbl := gtbl_in (w := Cond.selects yX6_matter.cls yX6_matter yX6_matter) 444 (by rfl) (by rfl)
abbrev YX6_ask : MY := (RX6, cX6_ask, 7, (some .int), none)
set_option maxRecDepth 20000 in
theorem MX6_ask : MTH yX6_ask YX6_ask 1 := ⟨gtbl_in (w := Cond.initialized RX6) 22 (by rfl) (by rfl), gtbl_in (w := Cond.code yX6_ask cX6_ask 7 (some .int)) 460 (by rfl) (by rfl), by decide +kernel, by decide +kernel, rfl, rfl, by decide⟩
set_option maxRecDepth 20000 in
theorem iX6_ask : Cond.instanceMethod yX6_ask ∈ gtbl := gtbl_in (w := Cond.instanceMethod yX6_ask) 458 (by rfl) (by rfl)
set_option maxRecDepth 20000 in
theorem vX6_ask : Cond.selects yX6_ask.cls yX6_ask yX6_ask ∈ gtbl := gtbl_in (w := Cond.selects yX6_ask.cls yX6_ask yX6_ask) 459 (by rfl) (by rfl)
abbrev YX6_mostLeft : MY := (RX6, cX6_mostLeft, 5, (some .int), none)
set_option maxRecDepth 20000 in
theorem MX6_mostLeft : MTH yX6_mostLeft YX6_mostLeft 2 := ⟨gtbl_in (w := Cond.initialized RX6) 22 (by rfl) (by rfl), gtbl_in (w := Cond.code yX6_mostLeft cX6_mostLeft 5 (some .int)) 464 (by rfl) (by rfl), by decide +kernel, by decide +kernel, rfl, rfl, by decide⟩
set_option maxRecDepth 20000 in
theorem iX6_mostLeft : Cond.instanceMethod yX6_mostLeft ∈ gtbl := gtbl_in (w := Cond.instanceMethod yX6_mostLeft) 463 (by rfl) (by rfl)
set_option maxRecDepth 20000 in
theorem vX6_mostLeft : Cond.selects yX6_mostLeft.cls yX6_mostLeft yX6_mostLeft ∈ gtbl := gtbl_in (w := Cond.selects yX6_mostLeft.cls yX6_mostLeft yX6_mostLeft) 1 (by rfl) (by rfl)
abbrev YX6_countLeft : MY := (RX6, cX6_countLeft, 6, (some .int), none)
set_option maxRecDepth 20000 in
theorem MX6_countLeft : MTH yX6_countLeft YX6_countLeft 3 := ⟨gtbl_in (w := Cond.initialized RX6) 22 (by rfl) (by rfl), gtbl_in (w := Cond.code yX6_countLeft cX6_countLeft 6 (some .int)) 468 (by rfl) (by rfl), by decide +kernel, by decide +kernel, rfl, rfl, by decide⟩
set_option maxRecDepth 20000 in
theorem iX6_countLeft : Cond.instanceMethod yX6_countLeft ∈ gtbl := gtbl_in (w := Cond.instanceMethod yX6_countLeft) 467 (by rfl) (by rfl)
set_option maxRecDepth 20000 in
theorem vX6_countLeft : Cond.selects yX6_countLeft.cls yX6_countLeft yX6_countLeft ∈ gtbl := gtbl_in (w := Cond.selects yX6_countLeft.cls yX6_countLeft yX6_countLeft) 2 (by rfl) (by rfl)
abbrev YX6_colourOf : MY := (RX6, cX6_colourOf, 3, (some .int), none)
set_option maxRecDepth 20000 in
theorem MX6_colourOf : MTH yX6_colourOf YX6_colourOf 3 := ⟨gtbl_in (w := Cond.initialized RX6) 22 (by rfl) (by rfl), gtbl_in (w := Cond.code yX6_colourOf cX6_colourOf 3 (some .int)) 456 (by rfl) (by rfl), by decide +kernel, by decide +kernel, rfl, rfl, by decide⟩
set_option maxRecDepth 20000 in
theorem sX6_colourOf : Cond.static yX6_colourOf ∈ gtbl := gtbl_in (w := Cond.static yX6_colourOf) 455 (by rfl) (by rfl)
abbrev YX6_takes : MY := (RX6, cX6_takes, 4, (some .int), none)
set_option maxRecDepth 20000 in
theorem MX6_takes : MTH yX6_takes YX6_takes 2 := ⟨gtbl_in (w := Cond.initialized RX6) 22 (by rfl) (by rfl), gtbl_in (w := Cond.code yX6_takes cX6_takes 4 (some .int)) 474 (by rfl) (by rfl), by decide +kernel, by decide +kernel, rfl, rfl, by decide⟩
set_option maxRecDepth 20000 in
theorem iX6_takes : Cond.instanceMethod yX6_takes ∈ gtbl := gtbl_in (w := Cond.instanceMethod yX6_takes) 472 (by rfl) (by rfl)
set_option maxRecDepth 20000 in
theorem vX6_takes : Cond.selects yX6_takes.cls yX6_takes yX6_takes ∈ gtbl := gtbl_in (w := Cond.selects yX6_takes.cls yX6_takes yX6_takes) 473 (by rfl) (by rfl)
abbrev YX6_winningTake : MY := (RX6, cX6_winningTake, 4, (some .int), none)
set_option maxRecDepth 20000 in
theorem MX6_winningTake : MTH yX6_winningTake YX6_winningTake 1 := ⟨gtbl_in (w := Cond.initialized RX6) 22 (by rfl) (by rfl), gtbl_in (w := Cond.code yX6_winningTake cX6_winningTake 4 (some .int)) 487 (by rfl) (by rfl), by decide +kernel, by decide +kernel, rfl, rfl, by decide⟩
set_option maxRecDepth 20000 in
theorem iX6_winningTake : Cond.instanceMethod yX6_winningTake ∈ gtbl := gtbl_in (w := Cond.instanceMethod yX6_winningTake) 486 (by rfl) (by rfl)
set_option maxRecDepth 20000 in
theorem vX6_winningTake : Cond.selects yX6_winningTake.cls yX6_winningTake yX6_winningTake ∈ gtbl := gtbl_in (w := Cond.selects yX6_winningTake.cls yX6_winningTake yX6_winningTake) 5 (by rfl) (by rfl)
abbrev YX6_learnRowValues : MY := (RX6, cX6_learnRowValues, 3, none, none)
set_option maxRecDepth 20000 in
theorem MX6_learnRowValues : MTH yX6_learnRowValues YX6_learnRowValues 1 := ⟨gtbl_in (w := Cond.initialized RX6) 22 (by rfl) (by rfl), gtbl_in (w := Cond.code yX6_learnRowValues cX6_learnRowValues 3 none) 479 (by rfl) (by rfl), by decide +kernel, by decide +kernel, rfl, rfl, by decide⟩
set_option maxRecDepth 20000 in
theorem iX6_learnRowValues : Cond.instanceMethod yX6_learnRowValues ∈ gtbl := gtbl_in (w := Cond.instanceMethod yX6_learnRowValues) 478 (by rfl) (by rfl)
set_option maxRecDepth 20000 in
theorem vX6_learnRowValues : Cond.selects yX6_learnRowValues.cls yX6_learnRowValues yX6_learnRowValues ∈ gtbl := gtbl_in (w := Cond.selects yX6_learnRowValues.cls yX6_learnRowValues yX6_learnRowValues) 3 (by rfl) (by rfl)
abbrev YX6_leastNotReached : MY := (RX6, cX6_leastNotReached, 6, (some .int), none)
set_option maxRecDepth 20000 in
theorem MX6_leastNotReached : MTH yX6_leastNotReached YX6_leastNotReached 1 := ⟨gtbl_in (w := Cond.initialized RX6) 22 (by rfl) (by rfl), gtbl_in (w := Cond.code yX6_leastNotReached cX6_leastNotReached 6 (some .int)) 483 (by rfl) (by rfl), by decide +kernel, by decide +kernel, rfl, rfl, by decide⟩
set_option maxRecDepth 20000 in
theorem iX6_leastNotReached : Cond.instanceMethod yX6_leastNotReached ∈ gtbl := gtbl_in (w := Cond.instanceMethod yX6_leastNotReached) 482 (by rfl) (by rfl)
set_option maxRecDepth 20000 in
theorem vX6_leastNotReached : Cond.selects yX6_leastNotReached.cls yX6_leastNotReached yX6_leastNotReached ∈ gtbl := gtbl_in (w := Cond.selects yX6_leastNotReached.cls yX6_leastNotReached yX6_leastNotReached) 4 (by rfl) (by rfl)
abbrev YX6_lean : MY := (RX6, cX6_lean, 11, (some .long), none)
set_option maxRecDepth 20000 in
theorem MX6_lean : MTH yX6_lean YX6_lean 4 := ⟨gtbl_in (w := Cond.initialized RX6) 22 (by rfl) (by rfl), gtbl_in (w := Cond.code yX6_lean cX6_lean 11 (some .long)) 491 (by rfl) (by rfl), by decide +kernel, by decide +kernel, rfl, rfl, by decide⟩
set_option maxRecDepth 20000 in
theorem iX6_lean : Cond.instanceMethod yX6_lean ∈ gtbl := gtbl_in (w := Cond.instanceMethod yX6_lean) 489 (by rfl) (by rfl)
set_option maxRecDepth 20000 in
theorem vX6_lean : Cond.selects yX6_lean.cls yX6_lean yX6_lean ∈ gtbl := gtbl_in (w := Cond.selects yX6_lean.cls yX6_lean yX6_lean) 490 (by rfl) (by rfl)
abbrev YX6_inLowestTerms : MY := (RX6, cX6_inLowestTerms, 9, (some .long), none)
set_option maxRecDepth 20000 in
theorem MX6_inLowestTerms : MTH yX6_inLowestTerms YX6_inLowestTerms 3 := ⟨gtbl_in (w := Cond.initialized RX6) 22 (by rfl) (by rfl), gtbl_in (w := Cond.code yX6_inLowestTerms cX6_inLowestTerms 9 (some .long)) 497 (by rfl) (by rfl), by decide +kernel, by decide +kernel, rfl, rfl, by decide⟩
set_option maxRecDepth 20000 in
theorem sX6_inLowestTerms : Cond.static yX6_inLowestTerms ∈ gtbl := gtbl_in (w := Cond.static yX6_inLowestTerms) 496 (by rfl) (by rfl)
abbrev YX6_greatestDivisor : MY := (RX6, cX6_greatestDivisor, 11, (some .long), none)
set_option maxRecDepth 20000 in
theorem MX6_greatestDivisor : MTH yX6_greatestDivisor YX6_greatestDivisor 2 := ⟨gtbl_in (w := Cond.initialized RX6) 22 (by rfl) (by rfl), gtbl_in (w := Cond.code yX6_greatestDivisor cX6_greatestDivisor 11 (some .long)) 500 (by rfl) (by rfl), by decide +kernel, by decide +kernel, rfl, rfl, by decide⟩
set_option maxRecDepth 20000 in
theorem sX6_greatestDivisor : Cond.static yX6_greatestDivisor ∈ gtbl := gtbl_in (w := Cond.static yX6_greatestDivisor) 499 (by rfl) (by rfl)
abbrev YX6_year : MY := (RX6, cX6_year, 10, (some .int), none)
set_option maxRecDepth 20000 in
theorem MX6_year : MTH yX6_year YX6_year 3 := ⟨gtbl_in (w := Cond.initialized RX6) 22 (by rfl) (by rfl), gtbl_in (w := Cond.code yX6_year cX6_year 10 (some .int)) 504 (by rfl) (by rfl), by decide +kernel, by decide +kernel, rfl, rfl, by decide⟩
set_option maxRecDepth 20000 in
theorem iX6_year : Cond.instanceMethod yX6_year ∈ gtbl := gtbl_in (w := Cond.instanceMethod yX6_year) 502 (by rfl) (by rfl)
set_option maxRecDepth 20000 in
theorem vX6_year : Cond.selects yX6_year.cls yX6_year yX6_year ∈ gtbl := gtbl_in (w := Cond.selects yX6_year.cls yX6_year yX6_year) 503 (by rfl) (by rfl)
abbrev YX6_image : MY := (RX6, cX6_image, 3, (some .int), none)
set_option maxRecDepth 20000 in
theorem MX6_image : MTH yX6_image YX6_image 1 := ⟨gtbl_in (w := Cond.initialized RX6) 22 (by rfl) (by rfl), gtbl_in (w := Cond.code yX6_image cX6_image 3 (some .int)) 522 (by rfl) (by rfl), by decide +kernel, by decide +kernel, rfl, rfl, by decide⟩
set_option maxRecDepth 20000 in
theorem iX6_image : Cond.instanceMethod yX6_image ∈ gtbl := gtbl_in (w := Cond.instanceMethod yX6_image) 520 (by rfl) (by rfl)
set_option maxRecDepth 20000 in
theorem vX6_image : Cond.selects yX6_image.cls yX6_image yX6_image ∈ gtbl := gtbl_in (w := Cond.selects yX6_image.cls yX6_image yX6_image) 521 (by rfl) (by rfl)
abbrev YX6_restore : MY := (RX6, cX6_restore, 3, (some .int), none)
set_option maxRecDepth 20000 in
theorem MX6_restore : MTH yX6_restore YX6_restore 1 := ⟨gtbl_in (w := Cond.initialized RX6) 22 (by rfl) (by rfl), gtbl_in (w := Cond.code yX6_restore cX6_restore 3 (some .int)) 530 (by rfl) (by rfl), by decide +kernel, by decide +kernel, rfl, rfl, by decide⟩
set_option maxRecDepth 20000 in
theorem iX6_restore : Cond.instanceMethod yX6_restore ∈ gtbl := gtbl_in (w := Cond.instanceMethod yX6_restore) 528 (by rfl) (by rfl)
set_option maxRecDepth 20000 in
theorem vX6_restore : Cond.selects yX6_restore.cls yX6_restore yX6_restore ∈ gtbl := gtbl_in (w := Cond.selects yX6_restore.cls yX6_restore yX6_restore) 529 (by rfl) (by rfl)
abbrev YX6_told : MY := (RX6, cX6_told, 2, (some .int), none)
set_option maxRecDepth 20000 in
theorem MX6_told : MTH yX6_told YX6_told 1 := ⟨gtbl_in (w := Cond.initialized RX6) 22 (by rfl) (by rfl), gtbl_in (w := Cond.code yX6_told cX6_told 2 (some .int)) 534 (by rfl) (by rfl), by decide +kernel, by decide +kernel, rfl, rfl, by decide⟩
set_option maxRecDepth 20000 in
theorem iX6_told : Cond.instanceMethod yX6_told ∈ gtbl := gtbl_in (w := Cond.instanceMethod yX6_told) 532 (by rfl) (by rfl)
set_option maxRecDepth 20000 in
theorem vX6_told : Cond.selects yX6_told.cls yX6_told yX6_told ∈ gtbl := gtbl_in (w := Cond.selects yX6_told.cls yX6_told yX6_told) 533 (by rfl) (by rfl)
abbrev YX6_toldOfHeap : MY := (RX6, cX6_toldOfHeap, 3, (some .int), none)
set_option maxRecDepth 20000 in
theorem MX6_toldOfHeap : MTH yX6_toldOfHeap YX6_toldOfHeap 2 := ⟨gtbl_in (w := Cond.initialized RX6) 22 (by rfl) (by rfl), gtbl_in (w := Cond.code yX6_toldOfHeap cX6_toldOfHeap 3 (some .int)) 538 (by rfl) (by rfl), by decide +kernel, by decide +kernel, rfl, rfl, by decide⟩
set_option maxRecDepth 20000 in
theorem iX6_toldOfHeap : Cond.instanceMethod yX6_toldOfHeap ∈ gtbl := gtbl_in (w := Cond.instanceMethod yX6_toldOfHeap) 537 (by rfl) (by rfl)
set_option maxRecDepth 20000 in
theorem vX6_toldOfHeap : Cond.selects yX6_toldOfHeap.cls yX6_toldOfHeap yX6_toldOfHeap ∈ gtbl := gtbl_in (w := Cond.selects yX6_toldOfHeap.cls yX6_toldOfHeap yX6_toldOfHeap) 6 (by rfl) (by rfl)
abbrev YX6_isIn : MY := (RX6, cX6_isIn, 6, (some .boolean), none)
set_option maxRecDepth 20000 in
theorem MX6_isIn : MTH yX6_isIn YX6_isIn 3 := ⟨gtbl_in (w := Cond.initialized RX6) 22 (by rfl) (by rfl), gtbl_in (w := Cond.code yX6_isIn cX6_isIn 6 (some .boolean)) 226 (by rfl) (by rfl), by decide +kernel, by decide +kernel, rfl, rfl, by decide⟩
set_option maxRecDepth 20000 in
theorem sX6_isIn : Cond.static yX6_isIn ∈ gtbl := gtbl_in (w := Cond.static yX6_isIn) 225 (by rfl) (by rfl)
abbrev YX6_isHeap : MY := (RX6, cX6_isHeap, 1, (some .boolean), none)
set_option maxRecDepth 20000 in
theorem MX6_isHeap : MTH yX6_isHeap YX6_isHeap 1 := ⟨gtbl_in (w := Cond.initialized RX6) 22 (by rfl) (by rfl), gtbl_in (w := Cond.code yX6_isHeap cX6_isHeap 1 (some .boolean)) 222 (by rfl) (by rfl), by decide +kernel, by decide +kernel, rfl, rfl, by decide⟩
set_option maxRecDepth 20000 in
theorem sX6_isHeap : Cond.static yX6_isHeap ∈ gtbl := gtbl_in (w := Cond.static yX6_isHeap) 221 (by rfl) (by rfl)
abbrev YX6_hasBit : MY := (RX6, cX6_hasBit, 2, (some .boolean), none)
set_option maxRecDepth 20000 in
theorem MX6_hasBit : MTH yX6_hasBit YX6_hasBit 2 := ⟨gtbl_in (w := Cond.initialized RX6) 22 (by rfl) (by rfl), gtbl_in (w := Cond.code yX6_hasBit cX6_hasBit 2 (some .boolean)) 317 (by rfl) (by rfl), by decide +kernel, by decide +kernel, rfl, rfl, by decide⟩
set_option maxRecDepth 20000 in
theorem sX6_hasBit : Cond.static yX6_hasBit ∈ gtbl := gtbl_in (w := Cond.static yX6_hasBit) 316 (by rfl) (by rfl)
abbrev YX7_init : MY := (RX7, cX7_init, 2, none, none)
abbrev YX7_in : MY := (RX7, cX7_in, 3, (some .boolean), none)
set_option maxRecDepth 20000 in
theorem MX7_in : MTH yX7_in YX7_in 3 := ⟨gtbl_in (w := Cond.initialized RX7) 29 (by rfl) (by rfl), gtbl_in (w := Cond.code yX7_in cX7_in 3 (some .boolean)) 616 (by rfl) (by rfl), by decide +kernel, by decide +kernel, rfl, rfl, by decide⟩
set_option maxRecDepth 20000 in
theorem sX7_in : Cond.static yX7_in ∈ gtbl := gtbl_in (w := Cond.static yX7_in) 615 (by rfl) (by rfl)
abbrev YX7_has : MY := (RX7, cX7_has, 2, (some .boolean), none)
set_option maxRecDepth 20000 in
theorem MX7_has : MTH yX7_has YX7_has 2 := ⟨gtbl_in (w := Cond.initialized RX7) 29 (by rfl) (by rfl), gtbl_in (w := Cond.code yX7_has cX7_has 2 (some .boolean)) 662 (by rfl) (by rfl), by decide +kernel, by decide +kernel, rfl, rfl, by decide⟩
set_option maxRecDepth 20000 in
theorem sX7_has : Cond.static yX7_has ∈ gtbl := gtbl_in (w := Cond.static yX7_has) 661 (by rfl) (by rfl)
abbrev YX7_bits : MY := (RX7, cX7_bits, 3, (some .int), none)
set_option maxRecDepth 20000 in
theorem MX7_bits : MTH yX7_bits YX7_bits 1 := ⟨gtbl_in (w := Cond.initialized RX7) 29 (by rfl) (by rfl), gtbl_in (w := Cond.code yX7_bits cX7_bits 3 (some .int)) 623 (by rfl) (by rfl), by decide +kernel, by decide +kernel, rfl, rfl, by decide⟩
set_option maxRecDepth 20000 in
theorem sX7_bits : Cond.static yX7_bits ∈ gtbl := gtbl_in (w := Cond.static yX7_bits) 622 (by rfl) (by rfl)
abbrev YX7_isHeap : MY := (RX7, cX7_isHeap, 1, (some .boolean), none)
set_option maxRecDepth 20000 in
theorem MX7_isHeap : MTH yX7_isHeap YX7_isHeap 1 := ⟨gtbl_in (w := Cond.initialized RX7) 29 (by rfl) (by rfl), gtbl_in (w := Cond.code yX7_isHeap cX7_isHeap 1 (some .boolean)) 613 (by rfl) (by rfl), by decide +kernel, by decide +kernel, rfl, rfl, by decide⟩
set_option maxRecDepth 20000 in
theorem sX7_isHeap : Cond.static yX7_isHeap ∈ gtbl := gtbl_in (w := Cond.static yX7_isHeap) 612 (by rfl) (by rfl)
abbrev YX7_heap : MY := (RX7, cX7_heap, 6, (some .int), none)
set_option maxRecDepth 20000 in
theorem MX7_heap : MTH yX7_heap YX7_heap 4 := ⟨gtbl_in (w := Cond.initialized RX7) 29 (by rfl) (by rfl), gtbl_in (w := Cond.code yX7_heap cX7_heap 6 (some .int)) 610 (by rfl) (by rfl), by decide +kernel, by decide +kernel, rfl, rfl, by decide⟩
set_option maxRecDepth 20000 in
theorem iX7_heap : Cond.instanceMethod yX7_heap ∈ gtbl := gtbl_in (w := Cond.instanceMethod yX7_heap) 608 (by rfl) (by rfl)
set_option maxRecDepth 20000 in
theorem vX7_heap : Cond.selects yX7_heap.cls yX7_heap yX7_heap ∈ gtbl := gtbl_in (w := Cond.selects yX7_heap.cls yX7_heap yX7_heap) 609 (by rfl) (by rfl)
abbrev YX7_burners : MY := (RX7, cX7_burners, 3, (some .int), none)
set_option maxRecDepth 20000 in
theorem MX7_burners : MTH yX7_burners YX7_burners 1 := ⟨gtbl_in (w := Cond.initialized RX7) 29 (by rfl) (by rfl), gtbl_in (w := Cond.code yX7_burners cX7_burners 3 (some .int)) 620 (by rfl) (by rfl), by decide +kernel, by decide +kernel, rfl, rfl, by decide⟩
set_option maxRecDepth 20000 in
theorem iX7_burners : Cond.instanceMethod yX7_burners ∈ gtbl := gtbl_in (w := Cond.instanceMethod yX7_burners) 618 (by rfl) (by rfl)
set_option maxRecDepth 20000 in
theorem vX7_burners : Cond.selects yX7_burners.cls yX7_burners yX7_burners ∈ gtbl := gtbl_in (w := Cond.selects yX7_burners.cls yX7_burners yX7_burners) 619 (by rfl) (by rfl)
abbrev YX7_say : MY := (RX7, cX7_say, 2, (some .int), none)
set_option maxRecDepth 20000 in
theorem MX7_say : MTH yX7_say YX7_say 1 := ⟨gtbl_in (w := Cond.initialized RX7) 29 (by rfl) (by rfl), gtbl_in (w := Cond.code yX7_say cX7_say 2 (some .int)) 627 (by rfl) (by rfl), by decide +kernel, by decide +kernel, rfl, rfl, by decide⟩
set_option maxRecDepth 20000 in
theorem iX7_say : Cond.instanceMethod yX7_say ∈ gtbl := gtbl_in (w := Cond.instanceMethod yX7_say) 625 (by rfl) (by rfl)
set_option maxRecDepth 20000 in
theorem vX7_say : Cond.selects yX7_say.cls yX7_say yX7_say ∈ gtbl := gtbl_in (w := Cond.selects yX7_say.cls yX7_say yX7_say) 626 (by rfl) (by rfl)
abbrev YX7_wipe : MY := (RX7, cX7_wipe, 2, (some .int), none)
set_option maxRecDepth 20000 in
theorem MX7_wipe : MTH yX7_wipe YX7_wipe 0 := ⟨gtbl_in (w := Cond.initialized RX7) 29 (by rfl) (by rfl), gtbl_in (w := Cond.code yX7_wipe cX7_wipe 2 (some .int)) 631 (by rfl) (by rfl), by decide +kernel, by decide +kernel, rfl, rfl, by decide⟩
set_option maxRecDepth 20000 in
theorem iX7_wipe : Cond.instanceMethod yX7_wipe ∈ gtbl := gtbl_in (w := Cond.instanceMethod yX7_wipe) 629 (by rfl) (by rfl)
set_option maxRecDepth 20000 in
theorem vX7_wipe : Cond.selects yX7_wipe.cls yX7_wipe yX7_wipe ∈ gtbl := gtbl_in (w := Cond.selects yX7_wipe.cls yX7_wipe yX7_wipe) 630 (by rfl) (by rfl)
abbrev YX7_faultOf : MY := (RX7, cX7_faultOf, 6, (some .int), none)
set_option maxRecDepth 20000 in
theorem MX7_faultOf : MTH yX7_faultOf YX7_faultOf 0 := ⟨gtbl_in (w := Cond.initialized RX7) 29 (by rfl) (by rfl), gtbl_in (w := Cond.code yX7_faultOf cX7_faultOf 6 (some .int)) 639 (by rfl) (by rfl), by decide +kernel, by decide +kernel, rfl, rfl, by decide⟩
set_option maxRecDepth 20000 in
theorem iX7_faultOf : Cond.instanceMethod yX7_faultOf ∈ gtbl := gtbl_in (w := Cond.instanceMethod yX7_faultOf) 638 (by rfl) (by rfl)
set_option maxRecDepth 20000 in
theorem vX7_faultOf : Cond.selects yX7_faultOf.cls yX7_faultOf yX7_faultOf ∈ gtbl := gtbl_in (w := Cond.selects yX7_faultOf.cls yX7_faultOf yX7_faultOf) 7 (by rfl) (by rfl)
abbrev YX7_fault : MY := (RX7, cX7_fault, 1, (some .int), none)
set_option maxRecDepth 20000 in
theorem MX7_fault : MTH yX7_fault YX7_fault 0 := ⟨gtbl_in (w := Cond.initialized RX7) 29 (by rfl) (by rfl), gtbl_in (w := Cond.code yX7_fault cX7_fault 1 (some .int)) 635 (by rfl) (by rfl), by decide +kernel, by decide +kernel, rfl, rfl, by decide⟩
set_option maxRecDepth 20000 in
theorem iX7_fault : Cond.instanceMethod yX7_fault ∈ gtbl := gtbl_in (w := Cond.instanceMethod yX7_fault) 633 (by rfl) (by rfl)
set_option maxRecDepth 20000 in
theorem vX7_fault : Cond.selects yX7_fault.cls yX7_fault yX7_fault ∈ gtbl := gtbl_in (w := Cond.selects yX7_fault.cls yX7_fault yX7_fault) 634 (by rfl) (by rfl)
abbrev YX7_asNow : MY := (RX7, cX7_asNow, 2, none, none)
set_option maxRecDepth 20000 in
theorem MX7_asNow : MTH yX7_asNow YX7_asNow 0 := ⟨gtbl_in (w := Cond.initialized RX7) 29 (by rfl) (by rfl), gtbl_in (w := Cond.code yX7_asNow cX7_asNow 2 none) 651 (by rfl) (by rfl), by decide +kernel, by decide +kernel, rfl, rfl, by decide⟩
set_option maxRecDepth 20000 in
theorem iX7_asNow : Cond.instanceMethod yX7_asNow ∈ gtbl := gtbl_in (w := Cond.instanceMethod yX7_asNow) 650 (by rfl) (by rfl)
set_option maxRecDepth 20000 in
theorem vX7_asNow : Cond.selects yX7_asNow.cls yX7_asNow yX7_asNow ∈ gtbl := gtbl_in (w := Cond.selects yX7_asNow.cls yX7_asNow yX7_asNow) 9 (by rfl) (by rfl)
abbrev YX7_off : MY := (RX7, cX7_off, 2, (some .int), none)
set_option maxRecDepth 20000 in
theorem MX7_off : MTH yX7_off YX7_off 2 := ⟨gtbl_in (w := Cond.initialized RX7) 29 (by rfl) (by rfl), gtbl_in (w := Cond.code yX7_off cX7_off 2 (some .int)) 668 (by rfl) (by rfl), by decide +kernel, by decide +kernel, rfl, rfl, by decide⟩
set_option maxRecDepth 20000 in
theorem sX7_off : Cond.static yX7_off ∈ gtbl := gtbl_in (w := Cond.static yX7_off) 667 (by rfl) (by rfl)
abbrev YX7_areNear : MY := (RX7, cX7_areNear, 2, (some .boolean), none)
set_option maxRecDepth 20000 in
theorem MX7_areNear : MTH yX7_areNear YX7_areNear 2 := ⟨gtbl_in (w := Cond.initialized RX7) 29 (by rfl) (by rfl), gtbl_in (w := Cond.code yX7_areNear cX7_areNear 2 (some .boolean)) 665 (by rfl) (by rfl), by decide +kernel, by decide +kernel, rfl, rfl, by decide⟩
set_option maxRecDepth 20000 in
theorem sX7_areNear : Cond.static yX7_areNear ∈ gtbl := gtbl_in (w := Cond.static yX7_areNear) 664 (by rfl) (by rfl)
abbrev YX7_stack : MY := (RX7, cX7_stack, 4, (some .int), none)
set_option maxRecDepth 20000 in
theorem MX7_stack : MTH yX7_stack YX7_stack 2 := ⟨gtbl_in (w := Cond.initialized RX7) 29 (by rfl) (by rfl), gtbl_in (w := Cond.code yX7_stack cX7_stack 4 (some .int)) 684 (by rfl) (by rfl), by decide +kernel, by decide +kernel, rfl, rfl, by decide⟩
set_option maxRecDepth 20000 in
theorem iX7_stack : Cond.instanceMethod yX7_stack ∈ gtbl := gtbl_in (w := Cond.instanceMethod yX7_stack) 683 (by rfl) (by rfl)
set_option maxRecDepth 20000 in
theorem vX7_stack : Cond.selects yX7_stack.cls yX7_stack yX7_stack ∈ gtbl := gtbl_in (w := Cond.selects yX7_stack.cls yX7_stack yX7_stack) 15 (by rfl) (by rfl)
abbrev YX7_turf : MY := (RX7, cX7_turf, 3, (some .int), none)
set_option maxRecDepth 20000 in
theorem MX7_turf : MTH yX7_turf YX7_turf 2 := ⟨gtbl_in (w := Cond.initialized RX7) 29 (by rfl) (by rfl), gtbl_in (w := Cond.code yX7_turf cX7_turf 3 (some .int)) 672 (by rfl) (by rfl), by decide +kernel, by decide +kernel, rfl, rfl, by decide⟩
set_option maxRecDepth 20000 in
theorem iX7_turf : Cond.instanceMethod yX7_turf ∈ gtbl := gtbl_in (w := Cond.instanceMethod yX7_turf) 671 (by rfl) (by rfl)
set_option maxRecDepth 20000 in
theorem vX7_turf : Cond.selects yX7_turf.cls yX7_turf yX7_turf ∈ gtbl := gtbl_in (w := Cond.selects yX7_turf.cls yX7_turf yX7_turf) 12 (by rfl) (by rfl)
abbrev YX7_kindle : MY := (RX7, cX7_kindle, 2, (some .int), none)
set_option maxRecDepth 20000 in
theorem MX7_kindle : MTH yX7_kindle YX7_kindle 1 := ⟨gtbl_in (w := Cond.initialized RX7) 29 (by rfl) (by rfl), gtbl_in (w := Cond.code yX7_kindle cX7_kindle 2 (some .int)) 676 (by rfl) (by rfl), by decide +kernel, by decide +kernel, rfl, rfl, by decide⟩
set_option maxRecDepth 20000 in
theorem iX7_kindle : Cond.instanceMethod yX7_kindle ∈ gtbl := gtbl_in (w := Cond.instanceMethod yX7_kindle) 675 (by rfl) (by rfl)
set_option maxRecDepth 20000 in
theorem vX7_kindle : Cond.selects yX7_kindle.cls yX7_kindle yX7_kindle ∈ gtbl := gtbl_in (w := Cond.selects yX7_kindle.cls yX7_kindle yX7_kindle) 13 (by rfl) (by rfl)
abbrev YX7_watch : MY := (RX7, cX7_watch, 2, (some .int), none)
set_option maxRecDepth 20000 in
theorem MX7_watch : MTH yX7_watch YX7_watch 1 := ⟨gtbl_in (w := Cond.initialized RX7) 29 (by rfl) (by rfl), gtbl_in (w := Cond.code yX7_watch cX7_watch 2 (some .int)) 680 (by rfl) (by rfl), by decide +kernel, by decide +kernel, rfl, rfl, by decide⟩
set_option maxRecDepth 20000 in
theorem iX7_watch : Cond.instanceMethod yX7_watch ∈ gtbl := gtbl_in (w := Cond.instanceMethod yX7_watch) 679 (by rfl) (by rfl)
set_option maxRecDepth 20000 in
theorem vX7_watch : Cond.selects yX7_watch.cls yX7_watch yX7_watch ∈ gtbl := gtbl_in (w := Cond.selects yX7_watch.cls yX7_watch yX7_watch) 14 (by rfl) (by rfl)
abbrev YX7_burn : MY := (RX7, cX7_burn, 5, (some .int), none)
set_option maxRecDepth 20000 in
theorem MX7_burn : MTH yX7_burn YX7_burn 0 := ⟨gtbl_in (w := Cond.initialized RX7) 29 (by rfl) (by rfl), gtbl_in (w := Cond.code yX7_burn cX7_burn 5 (some .int)) 659 (by rfl) (by rfl), by decide +kernel, by decide +kernel, rfl, rfl, by decide⟩
set_option maxRecDepth 20000 in
theorem iX7_burn : Cond.instanceMethod yX7_burn ∈ gtbl := gtbl_in (w := Cond.instanceMethod yX7_burn) 658 (by rfl) (by rfl)
set_option maxRecDepth 20000 in
theorem vX7_burn : Cond.selects yX7_burn.cls yX7_burn yX7_burn ∈ gtbl := gtbl_in (w := Cond.selects yX7_burn.cls yX7_burn yX7_burn) 11 (by rfl) (by rfl)
abbrev YX7_endNight : MY := (RX7, cX7_endNight, 1, (some .int), none)
set_option maxRecDepth 20000 in
theorem MX7_endNight : MTH yX7_endNight YX7_endNight 0 := ⟨gtbl_in (w := Cond.initialized RX7) 29 (by rfl) (by rfl), gtbl_in (w := Cond.code yX7_endNight cX7_endNight 1 (some .int)) 655 (by rfl) (by rfl), by decide +kernel, by decide +kernel, rfl, rfl, by decide⟩
set_option maxRecDepth 20000 in
theorem iX7_endNight : Cond.instanceMethod yX7_endNight ∈ gtbl := gtbl_in (w := Cond.instanceMethod yX7_endNight) 654 (by rfl) (by rfl)
set_option maxRecDepth 20000 in
theorem vX7_endNight : Cond.selects yX7_endNight.cls yX7_endNight yX7_endNight ∈ gtbl := gtbl_in (w := Cond.selects yX7_endNight.cls yX7_endNight yX7_endNight) 10 (by rfl) (by rfl)
abbrev YX7_goWeeks : MY := (RX7, cX7_goWeeks, 4, (some .int), none)
set_option maxRecDepth 20000 in
theorem MX7_goWeeks : MTH yX7_goWeeks YX7_goWeeks 0 := ⟨gtbl_in (w := Cond.initialized RX7) 29 (by rfl) (by rfl), gtbl_in (w := Cond.code yX7_goWeeks cX7_goWeeks 4 (some .int)) 647 (by rfl) (by rfl), by decide +kernel, by decide +kernel, rfl, rfl, by decide⟩
set_option maxRecDepth 20000 in
theorem iX7_goWeeks : Cond.instanceMethod yX7_goWeeks ∈ gtbl := gtbl_in (w := Cond.instanceMethod yX7_goWeeks) 646 (by rfl) (by rfl)
set_option maxRecDepth 20000 in
theorem vX7_goWeeks : Cond.selects yX7_goWeeks.cls yX7_goWeeks yX7_goWeeks ∈ gtbl := gtbl_in (w := Cond.selects yX7_goWeeks.cls yX7_goWeeks yX7_goWeeks) 8 (by rfl) (by rfl)
abbrev YX7_judge : MY := (RX7, cX7_judge, 3, (some .int), none)
set_option maxRecDepth 20000 in
theorem MX7_judge : MTH yX7_judge YX7_judge 1 := ⟨gtbl_in (w := Cond.initialized RX7) 29 (by rfl) (by rfl), gtbl_in (w := Cond.code yX7_judge cX7_judge 3 (some .int)) 643 (by rfl) (by rfl), by decide +kernel, by decide +kernel, rfl, rfl, by decide⟩
set_option maxRecDepth 20000 in
theorem iX7_judge : Cond.instanceMethod yX7_judge ∈ gtbl := gtbl_in (w := Cond.instanceMethod yX7_judge) 641 (by rfl) (by rfl)
set_option maxRecDepth 20000 in
theorem vX7_judge : Cond.selects yX7_judge.cls yX7_judge yX7_judge ∈ gtbl := gtbl_in (w := Cond.selects yX7_judge.cls yX7_judge yX7_judge) 642 (by rfl) (by rfl)
abbrev YX7_barOfWeeks : MY := (RX7, cX7_barOfWeeks, 1, (some .int), none)
set_option maxRecDepth 20000 in
theorem MX7_barOfWeeks : MTH yX7_barOfWeeks YX7_barOfWeeks 0 := ⟨gtbl_in (w := Cond.initialized RX7) 29 (by rfl) (by rfl), gtbl_in (w := Cond.code yX7_barOfWeeks cX7_barOfWeeks 1 (some .int)) 692 (by rfl) (by rfl), by decide +kernel, by decide +kernel, rfl, rfl, by decide⟩
set_option maxRecDepth 20000 in
theorem iX7_barOfWeeks : Cond.instanceMethod yX7_barOfWeeks ∈ gtbl := gtbl_in (w := Cond.instanceMethod yX7_barOfWeeks) 691 (by rfl) (by rfl)
set_option maxRecDepth 20000 in
theorem vX7_barOfWeeks : Cond.selects yX7_barOfWeeks.cls yX7_barOfWeeks yX7_barOfWeeks ∈ gtbl := gtbl_in (w := Cond.selects yX7_barOfWeeks.cls yX7_barOfWeeks yX7_barOfWeeks) 16 (by rfl) (by rfl)
abbrev YX7_done : MY := (RX7, cX7_done, 2, (some .int), none)
set_option maxRecDepth 20000 in
theorem MX7_done : MTH yX7_done YX7_done 0 := ⟨gtbl_in (w := Cond.initialized RX7) 29 (by rfl) (by rfl), gtbl_in (w := Cond.code yX7_done cX7_done 2 (some .int)) 688 (by rfl) (by rfl), by decide +kernel, by decide +kernel, rfl, rfl, by decide⟩
set_option maxRecDepth 20000 in
theorem iX7_done : Cond.instanceMethod yX7_done ∈ gtbl := gtbl_in (w := Cond.instanceMethod yX7_done) 686 (by rfl) (by rfl)
set_option maxRecDepth 20000 in
theorem vX7_done : Cond.selects yX7_done.cls yX7_done yX7_done ∈ gtbl := gtbl_in (w := Cond.selects yX7_done.cls yX7_done yX7_done) 687 (by rfl) (by rfl)
abbrev YX7_behind : MY := (RX7, cX7_behind, 3, (some .int), none)
set_option maxRecDepth 20000 in
theorem MX7_behind : MTH yX7_behind YX7_behind 2 := ⟨gtbl_in (w := Cond.initialized RX7) 29 (by rfl) (by rfl), gtbl_in (w := Cond.code yX7_behind cX7_behind 3 (some .int)) 696 (by rfl) (by rfl), by decide +kernel, by decide +kernel, rfl, rfl, by decide⟩
set_option maxRecDepth 20000 in
theorem iX7_behind : Cond.instanceMethod yX7_behind ∈ gtbl := gtbl_in (w := Cond.instanceMethod yX7_behind) 694 (by rfl) (by rfl)
set_option maxRecDepth 20000 in
theorem vX7_behind : Cond.selects yX7_behind.cls yX7_behind yX7_behind ∈ gtbl := gtbl_in (w := Cond.selects yX7_behind.cls yX7_behind yX7_behind) 695 (by rfl) (by rfl)
abbrev YX7_then : MY := (RX7, cX7_then, 2, (some .int), none)
set_option maxRecDepth 20000 in
theorem MX7_then : MTH yX7_then YX7_then 1 := ⟨gtbl_in (w := Cond.initialized RX7) 29 (by rfl) (by rfl), gtbl_in (w := Cond.code yX7_then cX7_then 2 (some .int)) 700 (by rfl) (by rfl), by decide +kernel, by decide +kernel, rfl, rfl, by decide⟩
set_option maxRecDepth 20000 in
theorem iX7_then : Cond.instanceMethod yX7_then ∈ gtbl := gtbl_in (w := Cond.instanceMethod yX7_then) 698 (by rfl) (by rfl)
set_option maxRecDepth 20000 in
theorem vX7_then : Cond.selects yX7_then.cls yX7_then yX7_then ∈ gtbl := gtbl_in (w := Cond.selects yX7_then.cls yX7_then yX7_then) 699 (by rfl) (by rfl)
abbrev YX7_chainOf : MY := (RX7, cX7_chainOf, 8, (some .int), none)
set_option maxRecDepth 20000 in
theorem MX7_chainOf : MTH yX7_chainOf YX7_chainOf 2 := ⟨gtbl_in (w := Cond.initialized RX7) 29 (by rfl) (by rfl), gtbl_in (w := Cond.code yX7_chainOf cX7_chainOf 8 (some .int)) 708 (by rfl) (by rfl), by decide +kernel, by decide +kernel, rfl, rfl, by decide⟩
set_option maxRecDepth 20000 in
theorem iX7_chainOf : Cond.instanceMethod yX7_chainOf ∈ gtbl := gtbl_in (w := Cond.instanceMethod yX7_chainOf) 707 (by rfl) (by rfl)
set_option maxRecDepth 20000 in
theorem vX7_chainOf : Cond.selects yX7_chainOf.cls yX7_chainOf yX7_chainOf ∈ gtbl := gtbl_in (w := Cond.selects yX7_chainOf.cls yX7_chainOf yX7_chainOf) 17 (by rfl) (by rfl)
abbrev YX7_chain : MY := (RX7, cX7_chain, 2, (some .int), none)
set_option maxRecDepth 20000 in
theorem MX7_chain : MTH yX7_chain YX7_chain 1 := ⟨gtbl_in (w := Cond.initialized RX7) 29 (by rfl) (by rfl), gtbl_in (w := Cond.code yX7_chain cX7_chain 2 (some .int)) 704 (by rfl) (by rfl), by decide +kernel, by decide +kernel, rfl, rfl, by decide⟩
set_option maxRecDepth 20000 in
theorem iX7_chain : Cond.instanceMethod yX7_chain ∈ gtbl := gtbl_in (w := Cond.instanceMethod yX7_chain) 702 (by rfl) (by rfl)
set_option maxRecDepth 20000 in
theorem vX7_chain : Cond.selects yX7_chain.cls yX7_chain yX7_chain ∈ gtbl := gtbl_in (w := Cond.selects yX7_chain.cls yX7_chain yX7_chain) 703 (by rfl) (by rfl)
abbrev YX7_cover : MY := (RX7, cX7_cover, 7, (some .int), none)
set_option maxRecDepth 20000 in
theorem MX7_cover : MTH yX7_cover YX7_cover 3 := ⟨gtbl_in (w := Cond.initialized RX7) 29 (by rfl) (by rfl), gtbl_in (w := Cond.code yX7_cover cX7_cover 7 (some .int)) 712 (by rfl) (by rfl), by decide +kernel, by decide +kernel, rfl, rfl, by decide⟩
set_option maxRecDepth 20000 in
theorem iX7_cover : Cond.instanceMethod yX7_cover ∈ gtbl := gtbl_in (w := Cond.instanceMethod yX7_cover) 710 (by rfl) (by rfl)
set_option maxRecDepth 20000 in
theorem vX7_cover : Cond.selects yX7_cover.cls yX7_cover yX7_cover ∈ gtbl := gtbl_in (w := Cond.selects yX7_cover.cls yX7_cover yX7_cover) 711 (by rfl) (by rfl)
abbrev YX7_canBeDrawn : MY := (RX7, cX7_canBeDrawn, 6, (some .boolean), none)
set_option maxRecDepth 20000 in
theorem MX7_canBeDrawn : MTH yX7_canBeDrawn YX7_canBeDrawn 2 := ⟨gtbl_in (w := Cond.initialized RX7) 29 (by rfl) (by rfl), gtbl_in (w := Cond.code yX7_canBeDrawn cX7_canBeDrawn 6 (some .boolean)) 721 (by rfl) (by rfl), by decide +kernel, by decide +kernel, rfl, rfl, by decide⟩
set_option maxRecDepth 20000 in
theorem iX7_canBeDrawn : Cond.instanceMethod yX7_canBeDrawn ∈ gtbl := gtbl_in (w := Cond.instanceMethod yX7_canBeDrawn) 720 (by rfl) (by rfl)
set_option maxRecDepth 20000 in
theorem vX7_canBeDrawn : Cond.selects yX7_canBeDrawn.cls yX7_canBeDrawn yX7_canBeDrawn ∈ gtbl := gtbl_in (w := Cond.selects yX7_canBeDrawn.cls yX7_canBeDrawn yX7_canBeDrawn) 18 (by rfl) (by rfl)
abbrev YX7_due : MY := (RX7, cX7_due, 12, (some .int), none)
set_option maxRecDepth 20000 in
theorem MX7_due : MTH yX7_due YX7_due 4 := ⟨gtbl_in (w := Cond.initialized RX7) 29 (by rfl) (by rfl), gtbl_in (w := Cond.code yX7_due cX7_due 12 (some .int)) 716 (by rfl) (by rfl), by decide +kernel, by decide +kernel, rfl, rfl, by decide⟩
set_option maxRecDepth 20000 in
theorem iX7_due : Cond.instanceMethod yX7_due ∈ gtbl := gtbl_in (w := Cond.instanceMethod yX7_due) 714 (by rfl) (by rfl)
set_option maxRecDepth 20000 in
theorem vX7_due : Cond.selects yX7_due.cls yX7_due yX7_due ∈ gtbl := gtbl_in (w := Cond.selects yX7_due.cls yX7_due yX7_due) 715 (by rfl) (by rfl)
abbrev YX7_nods : MY := (RX7, cX7_nods, 11, (some .int), none)
set_option maxRecDepth 20000 in
theorem MX7_nods : MTH yX7_nods YX7_nods 6 := ⟨gtbl_in (w := Cond.initialized RX7) 29 (by rfl) (by rfl), gtbl_in (w := Cond.code yX7_nods cX7_nods 11 (some .int)) 725 (by rfl) (by rfl), by decide +kernel, by decide +kernel, rfl, rfl, by decide⟩
set_option maxRecDepth 20000 in
theorem iX7_nods : Cond.instanceMethod yX7_nods ∈ gtbl := gtbl_in (w := Cond.instanceMethod yX7_nods) 723 (by rfl) (by rfl)
set_option maxRecDepth 20000 in
theorem vX7_nods : Cond.selects yX7_nods.cls yX7_nods yX7_nods ∈ gtbl := gtbl_in (w := Cond.selects yX7_nods.cls yX7_nods yX7_nods) 724 (by rfl) (by rfl)
abbrev YX7_seen : MY := (RX7, cX7_seen, 3, (some .int), none)
set_option maxRecDepth 20000 in
theorem MX7_seen : MTH yX7_seen YX7_seen 2 := ⟨gtbl_in (w := Cond.initialized RX7) 29 (by rfl) (by rfl), gtbl_in (w := Cond.code yX7_seen cX7_seen 3 (some .int)) 729 (by rfl) (by rfl), by decide +kernel, by decide +kernel, rfl, rfl, by decide⟩
set_option maxRecDepth 20000 in
theorem iX7_seen : Cond.instanceMethod yX7_seen ∈ gtbl := gtbl_in (w := Cond.instanceMethod yX7_seen) 727 (by rfl) (by rfl)
set_option maxRecDepth 20000 in
theorem vX7_seen : Cond.selects yX7_seen.cls yX7_seen yX7_seen ∈ gtbl := gtbl_in (w := Cond.selects yX7_seen.cls yX7_seen yX7_seen) 728 (by rfl) (by rfl)
abbrev YX7_forget : MY := (RX7, cX7_forget, 2, (some .int), none)
set_option maxRecDepth 20000 in
theorem MX7_forget : MTH yX7_forget YX7_forget 0 := ⟨gtbl_in (w := Cond.initialized RX7) 29 (by rfl) (by rfl), gtbl_in (w := Cond.code yX7_forget cX7_forget 2 (some .int)) 733 (by rfl) (by rfl), by decide +kernel, by decide +kernel, rfl, rfl, by decide⟩
set_option maxRecDepth 20000 in
theorem iX7_forget : Cond.instanceMethod yX7_forget ∈ gtbl := gtbl_in (w := Cond.instanceMethod yX7_forget) 731 (by rfl) (by rfl)
set_option maxRecDepth 20000 in
theorem vX7_forget : Cond.selects yX7_forget.cls yX7_forget yX7_forget ∈ gtbl := gtbl_in (w := Cond.selects yX7_forget.cls yX7_forget yX7_forget) 732 (by rfl) (by rfl)
abbrev YX7_colour : MY := (RX7, cX7_colour, 2, (some .int), none)
set_option maxRecDepth 20000 in
theorem MX7_colour : MTH yX7_colour YX7_colour 2 := ⟨gtbl_in (w := Cond.initialized RX7) 29 (by rfl) (by rfl), gtbl_in (w := Cond.code yX7_colour cX7_colour 2 (some .int)) 744 (by rfl) (by rfl), by decide +kernel, by decide +kernel, rfl, rfl, by decide⟩
set_option maxRecDepth 20000 in
theorem sX7_colour : Cond.static yX7_colour ∈ gtbl := gtbl_in (w := Cond.static yX7_colour) 743 (by rfl) (by rfl)
abbrev YX7_isFit : MY := (RX7, cX7_isFit, 4, (some .boolean), none)
set_option maxRecDepth 20000 in
theorem MX7_isFit : MTH yX7_isFit YX7_isFit 1 := ⟨gtbl_in (w := Cond.initialized RX7) 29 (by rfl) (by rfl), gtbl_in (w := Cond.code yX7_isFit cX7_isFit 4 (some .boolean)) 741 (by rfl) (by rfl), by decide +kernel, by decide +kernel, rfl, rfl, by decide⟩
set_option maxRecDepth 20000 in
theorem iX7_isFit : Cond.instanceMethod yX7_isFit ∈ gtbl := gtbl_in (w := Cond.instanceMethod yX7_isFit) 740 (by rfl) (by rfl)
set_option maxRecDepth 20000 in
theorem vX7_isFit : Cond.selects yX7_isFit.cls yX7_isFit yX7_isFit ∈ gtbl := gtbl_in (w := Cond.selects yX7_isFit.cls yX7_isFit yX7_isFit) 19 (by rfl) (by rfl)
abbrev YX7_matter : MY := (RX7, cX7_matter, 4, (some .int), none)
set_option maxRecDepth 20000 in
theorem MX7_matter : MTH yX7_matter YX7_matter 1 := ⟨gtbl_in (w := Cond.initialized RX7) 29 (by rfl) (by rfl), gtbl_in (w := Cond.code yX7_matter cX7_matter 4 (some .int)) 737 (by rfl) (by rfl), by decide +kernel, by decide +kernel, rfl, rfl, by decide⟩
set_option maxRecDepth 20000 in
theorem iX7_matter : Cond.instanceMethod yX7_matter ∈ gtbl := gtbl_in (w := Cond.instanceMethod yX7_matter) 735 (by rfl) (by rfl)
set_option maxRecDepth 20000 in
theorem vX7_matter : Cond.selects yX7_matter.cls yX7_matter yX7_matter ∈ gtbl := gtbl_in (w := Cond.selects yX7_matter.cls yX7_matter yX7_matter) 736 (by rfl) (by rfl)
abbrev YX7_ask : MY := (RX7, cX7_ask, 8, (some .int), none)
set_option maxRecDepth 20000 in
theorem MX7_ask : MTH yX7_ask YX7_ask 1 := ⟨gtbl_in (w := Cond.initialized RX7) 29 (by rfl) (by rfl), gtbl_in (w := Cond.code yX7_ask cX7_ask 8 (some .int)) 748 (by rfl) (by rfl), by decide +kernel, by decide +kernel, rfl, rfl, by decide⟩
set_option maxRecDepth 20000 in
theorem iX7_ask : Cond.instanceMethod yX7_ask ∈ gtbl := gtbl_in (w := Cond.instanceMethod yX7_ask) 746 (by rfl) (by rfl)
set_option maxRecDepth 20000 in
theorem vX7_ask : Cond.selects yX7_ask.cls yX7_ask yX7_ask ∈ gtbl := gtbl_in (w := Cond.selects yX7_ask.cls yX7_ask yX7_ask) 747 (by rfl) (by rfl)
abbrev YX7_layWorth : MY := (RX7, cX7_layWorth, 5, none, none)
set_option maxRecDepth 20000 in
theorem MX7_layWorth : MTH yX7_layWorth YX7_layWorth 1 := ⟨gtbl_in (w := Cond.initialized RX7) 29 (by rfl) (by rfl), gtbl_in (w := Cond.code yX7_layWorth cX7_layWorth 5 none) 757 (by rfl) (by rfl), by decide +kernel, by decide +kernel, rfl, rfl, by decide⟩
set_option maxRecDepth 20000 in
theorem iX7_layWorth : Cond.instanceMethod yX7_layWorth ∈ gtbl := gtbl_in (w := Cond.instanceMethod yX7_layWorth) 756 (by rfl) (by rfl)
set_option maxRecDepth 20000 in
theorem vX7_layWorth : Cond.selects yX7_layWorth.cls yX7_layWorth yX7_layWorth ∈ gtbl := gtbl_in (w := Cond.selects yX7_layWorth.cls yX7_layWorth yX7_layWorth) 20 (by rfl) (by rfl)
abbrev YX7_takes : MY := (RX7, cX7_takes, 5, (some .int), none)
set_option maxRecDepth 20000 in
theorem MX7_takes : MTH yX7_takes YX7_takes 2 := ⟨gtbl_in (w := Cond.initialized RX7) 29 (by rfl) (by rfl), gtbl_in (w := Cond.code yX7_takes cX7_takes 5 (some .int)) 753 (by rfl) (by rfl), by decide +kernel, by decide +kernel, rfl, rfl, by decide⟩
set_option maxRecDepth 20000 in
theorem iX7_takes : Cond.instanceMethod yX7_takes ∈ gtbl := gtbl_in (w := Cond.instanceMethod yX7_takes) 751 (by rfl) (by rfl)
set_option maxRecDepth 20000 in
theorem vX7_takes : Cond.selects yX7_takes.cls yX7_takes yX7_takes ∈ gtbl := gtbl_in (w := Cond.selects yX7_takes.cls yX7_takes yX7_takes) 752 (by rfl) (by rfl)
abbrev YX7_lowest : MY := (RX7, cX7_lowest, 11, (some .long), none)
set_option maxRecDepth 20000 in
theorem MX7_lowest : MTH yX7_lowest YX7_lowest 3 := ⟨gtbl_in (w := Cond.initialized RX7) 29 (by rfl) (by rfl), gtbl_in (w := Cond.code yX7_lowest cX7_lowest 11 (some .long)) 765 (by rfl) (by rfl), by decide +kernel, by decide +kernel, rfl, rfl, by decide⟩
set_option maxRecDepth 20000 in
theorem sX7_lowest : Cond.static yX7_lowest ∈ gtbl := gtbl_in (w := Cond.static yX7_lowest) 764 (by rfl) (by rfl)
abbrev YX7_lean : MY := (RX7, cX7_lean, 10, (some .long), none)
set_option maxRecDepth 20000 in
theorem MX7_lean : MTH yX7_lean YX7_lean 4 := ⟨gtbl_in (w := Cond.initialized RX7) 29 (by rfl) (by rfl), gtbl_in (w := Cond.code yX7_lean cX7_lean 10 (some .long)) 761 (by rfl) (by rfl), by decide +kernel, by decide +kernel, rfl, rfl, by decide⟩
set_option maxRecDepth 20000 in
theorem iX7_lean : Cond.instanceMethod yX7_lean ∈ gtbl := gtbl_in (w := Cond.instanceMethod yX7_lean) 759 (by rfl) (by rfl)
set_option maxRecDepth 20000 in
theorem vX7_lean : Cond.selects yX7_lean.cls yX7_lean yX7_lean ∈ gtbl := gtbl_in (w := Cond.selects yX7_lean.cls yX7_lean yX7_lean) 760 (by rfl) (by rfl)
abbrev YX7_year : MY := (RX7, cX7_year, 7, (some .int), none)
set_option maxRecDepth 20000 in
theorem MX7_year : MTH yX7_year YX7_year 3 := ⟨gtbl_in (w := Cond.initialized RX7) 29 (by rfl) (by rfl), gtbl_in (w := Cond.code yX7_year cX7_year 7 (some .int)) 769 (by rfl) (by rfl), by decide +kernel, by decide +kernel, rfl, rfl, by decide⟩
set_option maxRecDepth 20000 in
theorem iX7_year : Cond.instanceMethod yX7_year ∈ gtbl := gtbl_in (w := Cond.instanceMethod yX7_year) 767 (by rfl) (by rfl)
set_option maxRecDepth 20000 in
theorem vX7_year : Cond.selects yX7_year.cls yX7_year yX7_year ∈ gtbl := gtbl_in (w := Cond.selects yX7_year.cls yX7_year yX7_year) 768 (by rfl) (by rfl)
abbrev YX7_image : MY := (RX7, cX7_image, 4, (some .int), none)
set_option maxRecDepth 20000 in
theorem MX7_image : MTH yX7_image YX7_image 1 := ⟨gtbl_in (w := Cond.initialized RX7) 29 (by rfl) (by rfl), gtbl_in (w := Cond.code yX7_image cX7_image 4 (some .int)) 774 (by rfl) (by rfl), by decide +kernel, by decide +kernel, rfl, rfl, by decide⟩
set_option maxRecDepth 20000 in
theorem iX7_image : Cond.instanceMethod yX7_image ∈ gtbl := gtbl_in (w := Cond.instanceMethod yX7_image) 772 (by rfl) (by rfl)
set_option maxRecDepth 20000 in
theorem vX7_image : Cond.selects yX7_image.cls yX7_image yX7_image ∈ gtbl := gtbl_in (w := Cond.selects yX7_image.cls yX7_image yX7_image) 773 (by rfl) (by rfl)
abbrev YX7_restore : MY := (RX7, cX7_restore, 4, (some .int), none)
set_option maxRecDepth 20000 in
theorem MX7_restore : MTH yX7_restore YX7_restore 1 := ⟨gtbl_in (w := Cond.initialized RX7) 29 (by rfl) (by rfl), gtbl_in (w := Cond.code yX7_restore cX7_restore 4 (some .int)) 778 (by rfl) (by rfl), by decide +kernel, by decide +kernel, rfl, rfl, by decide⟩
set_option maxRecDepth 20000 in
theorem iX7_restore : Cond.instanceMethod yX7_restore ∈ gtbl := gtbl_in (w := Cond.instanceMethod yX7_restore) 776 (by rfl) (by rfl)
set_option maxRecDepth 20000 in
theorem vX7_restore : Cond.selects yX7_restore.cls yX7_restore yX7_restore ∈ gtbl := gtbl_in (w := Cond.selects yX7_restore.cls yX7_restore yX7_restore) 777 (by rfl) (by rfl)
abbrev YX7_told : MY := (RX7, cX7_told, 3, (some .int), none)
set_option maxRecDepth 20000 in
theorem MX7_told : MTH yX7_told YX7_told 1 := ⟨gtbl_in (w := Cond.initialized RX7) 29 (by rfl) (by rfl), gtbl_in (w := Cond.code yX7_told cX7_told 3 (some .int)) 782 (by rfl) (by rfl), by decide +kernel, by decide +kernel, rfl, rfl, by decide⟩
set_option maxRecDepth 20000 in
theorem iX7_told : Cond.instanceMethod yX7_told ∈ gtbl := gtbl_in (w := Cond.instanceMethod yX7_told) 780 (by rfl) (by rfl)
set_option maxRecDepth 20000 in
theorem vX7_told : Cond.selects yX7_told.cls yX7_told yX7_told ∈ gtbl := gtbl_in (w := Cond.selects yX7_told.cls yX7_told yX7_told) 781 (by rfl) (by rfl)
abbrev YJ6_bitCount_0f7a4 : MY := (RJ6, cJ6_bitCount_0f7a4, 1, (some .int), none)
set_option maxRecDepth 20000 in
theorem MJ6_bitCount_0f7a4 : MTH yJ6_bitCount_0f7a4 YJ6_bitCount_0f7a4 1 := ⟨gtbl_in (w := Cond.initialized RJ6) 30 (by rfl) (by rfl), gtbl_in (w := Cond.code yJ6_bitCount_0f7a4 cJ6_bitCount_0f7a4 1 (some .int)) 245 (by rfl) (by rfl), by decide +kernel, by decide +kernel, rfl, rfl, by decide⟩
set_option maxRecDepth 20000 in
theorem sJ6_bitCount_0f7a4 : Cond.static yJ6_bitCount_0f7a4 ∈ gtbl := gtbl_in (w := Cond.static yJ6_bitCount_0f7a4) 244 (by rfl) (by rfl)
abbrev YJ9_floorMod_7cf53 : MY := (RJ9, cJ9_floorMod_7cf53, 3, (some .int), none)
set_option maxRecDepth 20000 in
theorem MJ9_floorMod_7cf53 : MTH yJ9_floorMod_7cf53 YJ9_floorMod_7cf53 2 := ⟨gtbl_in (w := Cond.initialized RJ9) 31 (by rfl) (by rfl), gtbl_in (w := Cond.code yJ9_floorMod_7cf53 cJ9_floorMod_7cf53 3 (some .int)) 509 (by rfl) (by rfl), by decide +kernel, by decide +kernel, rfl, rfl, by decide⟩
set_option maxRecDepth 20000 in
theorem sJ9_floorMod_7cf53 : Cond.static yJ9_floorMod_7cf53 ∈ gtbl := gtbl_in (w := Cond.static yJ9_floorMod_7cf53) 508 (by rfl) (by rfl)
abbrev YJ9_abs_0f7a4 : MY := (RJ9, cJ9_abs_0f7a4, 1, (some .int), none)
set_option maxRecDepth 20000 in
theorem lm_abs : Cond.static Lib.Math.abs.name ∈ gtbl ∧ Cond.initialized "java/lang/Math" ∈ gtbl ∧ Cond.code Lib.Math.abs.name Lib.Math.abs.code 1 (some .int) ∈ gtbl := ⟨gtbl_in (w := Cond.static Lib.Math.abs.name) 340 (by rfl) (by rfl), gtbl_in (w := Cond.initialized "java/lang/Math") 31 (by rfl) (by rfl), gtbl_in (w := Cond.code Lib.Math.abs.name Lib.Math.abs.code 1 (some .int)) 341 (by rfl) (by rfl)⟩
abbrev YJ9_max_7cf53 : MY := (RJ9, cJ9_max_7cf53, 2, (some .int), none)
set_option maxRecDepth 20000 in
theorem lm_max : Cond.static Lib.Math.max.name ∈ gtbl ∧ Cond.initialized "java/lang/Math" ∈ gtbl ∧ Cond.code Lib.Math.max.name Lib.Math.max.code 2 (some .int) ∈ gtbl := ⟨gtbl_in (w := Cond.static Lib.Math.max.name) 343 (by rfl) (by rfl), gtbl_in (w := Cond.initialized "java/lang/Math") 31 (by rfl) (by rfl), gtbl_in (w := Cond.code Lib.Math.max.name Lib.Math.max.code 2 (some .int)) 344 (by rfl) (by rfl)⟩
abbrev YJ9_min_7cf53 : MY := (RJ9, cJ9_min_7cf53, 2, (some .int), none)
set_option maxRecDepth 20000 in
theorem lm_min : Cond.static Lib.Math.min.name ∈ gtbl ∧ Cond.initialized "java/lang/Math" ∈ gtbl ∧ Cond.code Lib.Math.min.name Lib.Math.min.code 2 (some .int) ∈ gtbl := ⟨gtbl_in (w := Cond.static Lib.Math.min.name) 511 (by rfl) (by rfl), gtbl_in (w := Cond.initialized "java/lang/Math") 31 (by rfl) (by rfl), gtbl_in (w := Cond.code Lib.Math.min.name Lib.Math.min.code 2 (some .int)) 512 (by rfl) (by rfl)⟩
set_option maxRecDepth 20000 in
theorem kL_9 : Cond.methodLink RL 9 yX6_init ∈ gtbl := gtbl_in (w := Cond.methodLink RL 9 yX6_init) 34 (by rfl) (by rfl)
set_option maxRecDepth 20000 in
theorem kX6_11 : Cond.methodLink RX6 11 yX0_init ∈ gtbl := gtbl_in (w := Cond.methodLink RX6 11 yX0_init) 42 (by rfl) (by rfl)
set_option maxRecDepth 20000 in
theorem kX6_18 : Cond.methodLink RX6 18 yX3_init ∈ gtbl := gtbl_in (w := Cond.methodLink RX6 18 yX3_init) 82 (by rfl) (by rfl)
set_option maxRecDepth 20000 in
theorem kX6_25 : Cond.methodLink RX6 25 yX4_init ∈ gtbl := gtbl_in (w := Cond.methodLink RX6 25 yX4_init) 98 (by rfl) (by rfl)
set_option maxRecDepth 20000 in
theorem kX6_32 : Cond.methodLink RX6 32 yX2_init ∈ gtbl := gtbl_in (w := Cond.methodLink RX6 32 yX2_init) 115 (by rfl) (by rfl)
set_option maxRecDepth 20000 in
theorem kX2_9 : Cond.methodLink RX2 9 yX0_init ∈ gtbl := gtbl_in (w := Cond.methodLink RX2 9 yX0_init) 120 (by rfl) (by rfl)
set_option maxRecDepth 20000 in
theorem kX2_18 : Cond.methodLink RX2 18 yX4_init ∈ gtbl := gtbl_in (w := Cond.methodLink RX2 18 yX4_init) 122 (by rfl) (by rfl)
set_option maxRecDepth 20000 in
theorem kX6_42 : Cond.methodLink RX6 42 yX5_init ∈ gtbl := gtbl_in (w := Cond.methodLink RX6 42 yX5_init) 137 (by rfl) (by rfl)
set_option maxRecDepth 20000 in
theorem kX5_11 : Cond.methodLink RX5 11 yX0_init ∈ gtbl := gtbl_in (w := Cond.methodLink RX5 11 yX0_init) 142 (by rfl) (by rfl)
set_option maxRecDepth 20000 in
theorem kX6_49 : Cond.methodLink RX6 49 yX1_init ∈ gtbl := gtbl_in (w := Cond.methodLink RX6 49 yX1_init) 174 (by rfl) (by rfl)
set_option maxRecDepth 20000 in
theorem kL_13 : Cond.methodLink RL 13 yX6_heap ∈ gtbl := gtbl_in (w := Cond.methodLink RL 13 yX6_heap) 216 (by rfl) (by rfl)
set_option maxRecDepth 20000 in
theorem kX6_65 : Cond.methodLink RX6 65 yX6_isHeap ∈ gtbl := gtbl_in (w := Cond.methodLink RX6 65 yX6_isHeap) 220 (by rfl) (by rfl)
set_option maxRecDepth 20000 in
theorem kX6_73 : Cond.methodLink RX6 73 yX6_isIn ∈ gtbl := gtbl_in (w := Cond.methodLink RX6 73 yX6_isIn) 224 (by rfl) (by rfl)
set_option maxRecDepth 20000 in
theorem kX6_79 : Cond.methodLink RX6 79 yX0_isTakenByAnother ∈ gtbl := gtbl_in (w := Cond.methodLink RX6 79 yX0_isTakenByAnother) 230 (by rfl) (by rfl)
set_option maxRecDepth 20000 in
theorem kX6_86 : Cond.methodLink RX6 86 yX0_put ∈ gtbl := gtbl_in (w := Cond.methodLink RX6 86 yX0_put) 234 (by rfl) (by rfl)
set_option maxRecDepth 20000 in
theorem kL_18 : Cond.methodLink RL 18 yX6_burners ∈ gtbl := gtbl_in (w := Cond.methodLink RL 18 yX6_burners) 238 (by rfl) (by rfl)
set_option maxRecDepth 20000 in
theorem kX6_95 : Cond.methodLink RX6 95 yJ6_bitCount_0f7a4 ∈ gtbl := gtbl_in (w := Cond.methodLink RX6 95 yJ6_bitCount_0f7a4) 243 (by rfl) (by rfl)
set_option maxRecDepth 20000 in
theorem kL_23 : Cond.methodLink RL 23 yX6_say ∈ gtbl := gtbl_in (w := Cond.methodLink RL 23 yX6_say) 249 (by rfl) (by rfl)
set_option maxRecDepth 20000 in
theorem kX6_108 : Cond.methodLink RX6 108 yX3_append ∈ gtbl := gtbl_in (w := Cond.methodLink RX6 108 yX3_append) 255 (by rfl) (by rfl)
set_option maxRecDepth 20000 in
theorem kL_27 : Cond.methodLink RL 27 yX6_wipe ∈ gtbl := gtbl_in (w := Cond.methodLink RL 27 yX6_wipe) 259 (by rfl) (by rfl)
set_option maxRecDepth 20000 in
theorem kL_32 : Cond.methodLink RL 32 yX6_fault ∈ gtbl := gtbl_in (w := Cond.methodLink RL 32 yX6_fault) 263 (by rfl) (by rfl)
set_option maxRecDepth 20000 in
theorem kX6_114 : Cond.methodLink RX6 114 yX3_faultPlace ∈ gtbl := gtbl_in (w := Cond.methodLink RX6 114 yX3_faultPlace) 267 (by rfl) (by rfl)
set_option maxRecDepth 20000 in
theorem kX3_19 : Cond.methodLink RX3 19 yX3_isHeapLetter ∈ gtbl := gtbl_in (w := Cond.methodLink RX3 19 yX3_isHeapLetter) 271 (by rfl) (by rfl)
set_option maxRecDepth 20000 in
theorem kX3_23 : Cond.methodLink RX3 23 yX3_isDeed ∈ gtbl := gtbl_in (w := Cond.methodLink RX3 23 yX3_isDeed) 277 (by rfl) (by rfl)
set_option maxRecDepth 20000 in
theorem kX3_38 : Cond.methodLink RX3 38 yX3_isCellLetter ∈ gtbl := gtbl_in (w := Cond.methodLink RX3 38 yX3_isCellLetter) 280 (by rfl) (by rfl)
set_option maxRecDepth 20000 in
theorem kL_36 : Cond.methodLink RL 36 yX6_judge ∈ gtbl := gtbl_in (w := Cond.methodLink RL 36 yX6_judge) 285 (by rfl) (by rfl)
set_option maxRecDepth 20000 in
theorem kX6_118 : Cond.methodLink RX6 118 yX5_tryOut ∈ gtbl := gtbl_in (w := Cond.methodLink RX6 118 yX5_tryOut) 289 (by rfl) (by rfl)
set_option maxRecDepth 20000 in
theorem kX5_18 : Cond.methodLink RX5 18 yX5_begin ∈ gtbl := gtbl_in (w := Cond.methodLink RX5 18 yX5_begin) 293 (by rfl) (by rfl)
set_option maxRecDepth 20000 in
theorem kX5_64 : Cond.methodLink RX5 64 yX0_copyFrom ∈ gtbl := gtbl_in (w := Cond.methodLink RX5 64 yX0_copyFrom) 297 (by rfl) (by rfl)
set_option maxRecDepth 20000 in
theorem kX5_22 : Cond.methodLink RX5 22 yX3_faultPlace ∈ gtbl := gtbl_in (w := Cond.methodLink RX5 22 yX3_faultPlace) 301 (by rfl) (by rfl)
set_option maxRecDepth 20000 in
theorem kX5_36 : Cond.methodLink RX5 36 yX3_isHeapLetter ∈ gtbl := gtbl_in (w := Cond.methodLink RX5 36 yX3_isHeapLetter) 302 (by rfl) (by rfl)
set_option maxRecDepth 20000 in
theorem kX5_40 : Cond.methodLink RX5 40 yX3_kindOf ∈ gtbl := gtbl_in (w := Cond.methodLink RX5 40 yX3_kindOf) 303 (by rfl) (by rfl)
set_option maxRecDepth 20000 in
theorem kX5_44 : Cond.methodLink RX5 44 yX0_reasonAgainst ∈ gtbl := gtbl_in (w := Cond.methodLink RX5 44 yX0_reasonAgainst) 306 (by rfl) (by rfl)
set_option maxRecDepth 20000 in
theorem kX0_61 : Cond.methodLink RX0 61 yX0_isTakenByAnother ∈ gtbl := gtbl_in (w := Cond.methodLink RX0 61 yX0_isTakenByAnother) 310 (by rfl) (by rfl)
set_option maxRecDepth 20000 in
theorem kX0_57 : Cond.methodLink RX0 57 yX0_isAlight ∈ gtbl := gtbl_in (w := Cond.methodLink RX0 57 yX0_isAlight) 311 (by rfl) (by rfl)
set_option maxRecDepth 20000 in
theorem kX0_64 : Cond.methodLink RX0 64 yJ6_bitCount_0f7a4 ∈ gtbl := gtbl_in (w := Cond.methodLink RX0 64 yJ6_bitCount_0f7a4) 318 (by rfl) (by rfl)
set_option maxRecDepth 20000 in
theorem kX5_57 : Cond.methodLink RX5 57 yX0_perform ∈ gtbl := gtbl_in (w := Cond.methodLink RX5 57 yX0_perform) 319 (by rfl) (by rfl)
set_option maxRecDepth 20000 in
theorem kX0_69 : Cond.methodLink RX0 69 yX0_passNight ∈ gtbl := gtbl_in (w := Cond.methodLink RX0 69 yX0_passNight) 323 (by rfl) (by rfl)
set_option maxRecDepth 20000 in
theorem kX0_73 : Cond.methodLink RX0 73 yX0_smoulder ∈ gtbl := gtbl_in (w := Cond.methodLink RX0 73 yX0_smoulder) 327 (by rfl) (by rfl)
set_option maxRecDepth 20000 in
theorem kX0_53 : Cond.methodLink RX0 53 yX0_countNear ∈ gtbl := gtbl_in (w := Cond.methodLink RX0 53 yX0_countNear) 331 (by rfl) (by rfl)
set_option maxRecDepth 20000 in
theorem kX0_47 : Cond.methodLink RX0 47 yX0_areNear ∈ gtbl := gtbl_in (w := Cond.methodLink RX0 47 yX0_areNear) 335 (by rfl) (by rfl)
set_option maxRecDepth 20000 in
theorem kX0_37 : Cond.methodLink RX0 37 Lib.Math.abs.name ∈ gtbl := gtbl_in (w := Cond.methodLink RX0 37 Lib.Math.abs.name) 339 (by rfl) (by rfl)
set_option maxRecDepth 20000 in
theorem kX0_76 : Cond.methodLink RX0 76 Lib.Math.max.name ∈ gtbl := gtbl_in (w := Cond.methodLink RX0 76 Lib.Math.max.name) 342 (by rfl) (by rfl)
set_option maxRecDepth 20000 in
theorem kX5_60 : Cond.methodLink RX5 60 yX5_noteFlares ∈ gtbl := gtbl_in (w := Cond.methodLink RX5 60 yX5_noteFlares) 345 (by rfl) (by rfl)
set_option maxRecDepth 20000 in
theorem kX5_76 : Cond.methodLink RX5 76 yJ6_bitCount_0f7a4 ∈ gtbl := gtbl_in (w := Cond.methodLink RX5 76 yJ6_bitCount_0f7a4) 349 (by rfl) (by rfl)
set_option maxRecDepth 20000 in
theorem kL_40 : Cond.methodLink RL 40 yX6_done ∈ gtbl := gtbl_in (w := Cond.methodLink RL 40 yX6_done) 351 (by rfl) (by rfl)
set_option maxRecDepth 20000 in
theorem kX6_131 : Cond.methodLink RX6 131 yX0_copyFrom ∈ gtbl := gtbl_in (w := Cond.methodLink RX6 131 yX0_copyFrom) 355 (by rfl) (by rfl)
set_option maxRecDepth 20000 in
theorem kL_44 : Cond.methodLink RL 44 yX6_behind ∈ gtbl := gtbl_in (w := Cond.methodLink RL 44 yX6_behind) 356 (by rfl) (by rfl)
set_option maxRecDepth 20000 in
theorem kL_49 : Cond.methodLink RL 49 yX6_then ∈ gtbl := gtbl_in (w := Cond.methodLink RL 49 yX6_then) 361 (by rfl) (by rfl)
set_option maxRecDepth 20000 in
theorem kL_53 : Cond.methodLink RL 53 yX6_chain ∈ gtbl := gtbl_in (w := Cond.methodLink RL 53 yX6_chain) 365 (by rfl) (by rfl)
set_option maxRecDepth 20000 in
theorem kX6_164 : Cond.methodLink RX6 164 yX0_isAlight ∈ gtbl := gtbl_in (w := Cond.methodLink RX6 164 yX0_isAlight) 369 (by rfl) (by rfl)
set_option maxRecDepth 20000 in
theorem kX6_167 : Cond.methodLink RX6 167 yX0_flaringBy ∈ gtbl := gtbl_in (w := Cond.methodLink RX6 167 yX0_flaringBy) 370 (by rfl) (by rfl)
set_option maxRecDepth 20000 in
theorem kX0_50 : Cond.methodLink RX0 50 yX0_canCatch ∈ gtbl := gtbl_in (w := Cond.methodLink RX0 50 yX0_canCatch) 374 (by rfl) (by rfl)
set_option maxRecDepth 20000 in
theorem kL_57 : Cond.methodLink RL 57 yX6_cover ∈ gtbl := gtbl_in (w := Cond.methodLink RL 57 yX6_cover) 378 (by rfl) (by rfl)
set_option maxRecDepth 20000 in
theorem kX6_171 : Cond.methodLink RX6 171 yX6_fewestCovered ∈ gtbl := gtbl_in (w := Cond.methodLink RX6 171 yX6_fewestCovered) 382 (by rfl) (by rfl)
set_option maxRecDepth 20000 in
theorem kX6_174 : Cond.methodLink RX6 174 yX6_hasBit ∈ gtbl := gtbl_in (w := Cond.methodLink RX6 174 yX6_hasBit) 386 (by rfl) (by rfl)
set_option maxRecDepth 20000 in
theorem kL_64 : Cond.methodLink RL 64 yX6_due ∈ gtbl := gtbl_in (w := Cond.methodLink RL 64 yX6_due) 387 (by rfl) (by rfl)
set_option maxRecDepth 20000 in
theorem kX6_179 : Cond.methodLink RX6 179 yX1_readNights ∈ gtbl := gtbl_in (w := Cond.methodLink RX6 179 yX1_readNights) 392 (by rfl) (by rfl)
set_option maxRecDepth 20000 in
theorem kX6_182 : Cond.methodLink RX6 182 yX1_readDays ∈ gtbl := gtbl_in (w := Cond.methodLink RX6 182 yX1_readDays) 396 (by rfl) (by rfl)
set_option maxRecDepth 20000 in
theorem kX6_186 : Cond.methodLink RX6 186 yX1_mostInTime ∈ gtbl := gtbl_in (w := Cond.methodLink RX6 186 yX1_mostInTime) 401 (by rfl) (by rfl)
set_option maxRecDepth 20000 in
theorem kX1_20 : Cond.methodLink RX1 20 yJ6_bitCount_0f7a4 ∈ gtbl := gtbl_in (w := Cond.methodLink RX1 20 yJ6_bitCount_0f7a4) 405 (by rfl) (by rfl)
set_option maxRecDepth 20000 in
theorem kX1_26 : Cond.methodLink RX1 26 yX1_areInTime ∈ gtbl := gtbl_in (w := Cond.methodLink RX1 26 yX1_areInTime) 406 (by rfl) (by rfl)
set_option maxRecDepth 20000 in
theorem kX1_33 : Cond.methodLink RX1 33 yX1_nightsUntil ∈ gtbl := gtbl_in (w := Cond.methodLink RX1 33 yX1_nightsUntil) 411 (by rfl) (by rfl)
set_option maxRecDepth 20000 in
theorem kL_69 : Cond.methodLink RL 69 yX6_nods ∈ gtbl := gtbl_in (w := Cond.methodLink RL 69 yX6_nods) 415 (by rfl) (by rfl)
set_option maxRecDepth 20000 in
theorem kX6_191 : Cond.methodLink RX6 191 yX6_firstNightAsleep ∈ gtbl := gtbl_in (w := Cond.methodLink RX6 191 yX6_firstNightAsleep) 420 (by rfl) (by rfl)
set_option maxRecDepth 20000 in
theorem kX6_198 : Cond.methodLink RX6 198 yX6_isAsleep ∈ gtbl := gtbl_in (w := Cond.methodLink RX6 198 yX6_isAsleep) 423 (by rfl) (by rfl)
set_option maxRecDepth 20000 in
theorem kX6_195 : Cond.methodLink RX6 195 yX6_nightsAsleep ∈ gtbl := gtbl_in (w := Cond.methodLink RX6 195 yX6_nightsAsleep) 426 (by rfl) (by rfl)
set_option maxRecDepth 20000 in
theorem kL_74 : Cond.methodLink RL 74 yX6_seen ∈ gtbl := gtbl_in (w := Cond.methodLink RL 74 yX6_seen) 429 (by rfl) (by rfl)
set_option maxRecDepth 20000 in
theorem kX6_204 : Cond.methodLink RX6 204 yX4_append ∈ gtbl := gtbl_in (w := Cond.methodLink RX6 204 yX4_append) 434 (by rfl) (by rfl)
set_option maxRecDepth 20000 in
theorem kL_78 : Cond.methodLink RL 78 yX6_forget ∈ gtbl := gtbl_in (w := Cond.methodLink RL 78 yX6_forget) 438 (by rfl) (by rfl)
set_option maxRecDepth 20000 in
theorem kL_82 : Cond.methodLink RL 82 yX6_matter ∈ gtbl := gtbl_in (w := Cond.methodLink RL 82 yX6_matter) 442 (by rfl) (by rfl)
set_option maxRecDepth 20000 in
theorem kX6_207 : Cond.methodLink RX6 207 yX4_listFitting ∈ gtbl := gtbl_in (w := Cond.methodLink RX6 207 yX4_listFitting) 446 (by rfl) (by rfl)
set_option maxRecDepth 20000 in
theorem kX4_26 : Cond.methodLink RX4 26 yX4_fit ∈ gtbl := gtbl_in (w := Cond.methodLink RX4 26 yX4_fit) 450 (by rfl) (by rfl)
set_option maxRecDepth 20000 in
theorem kL_86 : Cond.methodLink RL 86 yX6_ask ∈ gtbl := gtbl_in (w := Cond.methodLink RL 86 yX6_ask) 457 (by rfl) (by rfl)
set_option maxRecDepth 20000 in
theorem kX6_211 : Cond.methodLink RX6 211 yX6_mostLeft ∈ gtbl := gtbl_in (w := Cond.methodLink RX6 211 yX6_mostLeft) 461 (by rfl) (by rfl)
set_option maxRecDepth 20000 in
theorem kX6_214 : Cond.methodLink RX6 214 yX6_countLeft ∈ gtbl := gtbl_in (w := Cond.methodLink RX6 214 yX6_countLeft) 465 (by rfl) (by rfl)
set_option maxRecDepth 20000 in
theorem kX6_223 : Cond.methodLink RX6 223 yX6_colourOf ∈ gtbl := gtbl_in (w := Cond.methodLink RX6 223 yX6_colourOf) 469 (by rfl) (by rfl)
set_option maxRecDepth 20000 in
theorem kX6_218 : Cond.methodLink RX6 218 Lib.Math.max.name ∈ gtbl := gtbl_in (w := Cond.methodLink RX6 218 Lib.Math.max.name) 470 (by rfl) (by rfl)
set_option maxRecDepth 20000 in
theorem kL_90 : Cond.methodLink RL 90 yX6_takes ∈ gtbl := gtbl_in (w := Cond.methodLink RL 90 yX6_takes) 471 (by rfl) (by rfl)
set_option maxRecDepth 20000 in
theorem kX6_228 : Cond.methodLink RX6 228 yX6_learnRowValues ∈ gtbl := gtbl_in (w := Cond.methodLink RX6 228 yX6_learnRowValues) 476 (by rfl) (by rfl)
set_option maxRecDepth 20000 in
theorem kX6_235 : Cond.methodLink RX6 235 yX6_leastNotReached ∈ gtbl := gtbl_in (w := Cond.methodLink RX6 235 yX6_leastNotReached) 480 (by rfl) (by rfl)
set_option maxRecDepth 20000 in
theorem kX6_232 : Cond.methodLink RX6 232 yX6_winningTake ∈ gtbl := gtbl_in (w := Cond.methodLink RX6 232 yX6_winningTake) 484 (by rfl) (by rfl)
set_option maxRecDepth 20000 in
theorem kL_94 : Cond.methodLink RL 94 yX6_lean ∈ gtbl := gtbl_in (w := Cond.methodLink RL 94 yX6_lean) 488 (by rfl) (by rfl)
set_option maxRecDepth 20000 in
theorem kX6_244 : Cond.methodLink RX6 244 yX6_inLowestTerms ∈ gtbl := gtbl_in (w := Cond.methodLink RX6 244 yX6_inLowestTerms) 495 (by rfl) (by rfl)
set_option maxRecDepth 20000 in
theorem kX6_248 : Cond.methodLink RX6 248 yX6_greatestDivisor ∈ gtbl := gtbl_in (w := Cond.methodLink RX6 248 yX6_greatestDivisor) 498 (by rfl) (by rfl)
set_option maxRecDepth 20000 in
theorem kL_99 : Cond.methodLink RL 99 yX6_year ∈ gtbl := gtbl_in (w := Cond.methodLink RL 99 yX6_year) 501 (by rfl) (by rfl)
set_option maxRecDepth 20000 in
theorem kX6_255 : Cond.methodLink RX6 255 yJ9_floorMod_7cf53 ∈ gtbl := gtbl_in (w := Cond.methodLink RX6 255 yJ9_floorMod_7cf53) 507 (by rfl) (by rfl)
set_option maxRecDepth 20000 in
theorem kX6_258 : Cond.methodLink RX6 258 Lib.Math.min.name ∈ gtbl := gtbl_in (w := Cond.methodLink RX6 258 Lib.Math.min.name) 510 (by rfl) (by rfl)
set_option maxRecDepth 20000 in
theorem kX6_261 : Cond.methodLink RX6 261 yX0_reasonAgainst ∈ gtbl := gtbl_in (w := Cond.methodLink RX6 261 yX0_reasonAgainst) 513 (by rfl) (by rfl)
set_option maxRecDepth 20000 in
theorem kX6_264 : Cond.methodLink RX6 264 yX0_perform ∈ gtbl := gtbl_in (w := Cond.methodLink RX6 264 yX0_perform) 514 (by rfl) (by rfl)
set_option maxRecDepth 20000 in
theorem kX6_267 : Cond.methodLink RX6 267 yX0_heatOfAll ∈ gtbl := gtbl_in (w := Cond.methodLink RX6 267 yX0_heatOfAll) 515 (by rfl) (by rfl)
set_option maxRecDepth 20000 in
theorem kL_103 : Cond.methodLink RL 103 yX6_image ∈ gtbl := gtbl_in (w := Cond.methodLink RL 103 yX6_image) 519 (by rfl) (by rfl)
set_option maxRecDepth 20000 in
theorem kX6_274 : Cond.methodLink RX6 274 yX4_copyFrom ∈ gtbl := gtbl_in (w := Cond.methodLink RX6 274 yX4_copyFrom) 523 (by rfl) (by rfl)
set_option maxRecDepth 20000 in
theorem kL_107 : Cond.methodLink RL 107 yX6_restore ∈ gtbl := gtbl_in (w := Cond.methodLink RL 107 yX6_restore) 527 (by rfl) (by rfl)
set_option maxRecDepth 20000 in
theorem kL_111 : Cond.methodLink RL 111 yX6_told ∈ gtbl := gtbl_in (w := Cond.methodLink RL 111 yX6_told) 531 (by rfl) (by rfl)
set_option maxRecDepth 20000 in
theorem kX6_281 : Cond.methodLink RX6 281 yX6_toldOfHeap ∈ gtbl := gtbl_in (w := Cond.methodLink RX6 281 yX6_toldOfHeap) 535 (by rfl) (by rfl)
set_option maxRecDepth 20000 in
theorem kL_12 : Cond.methodLink RL 12 yX7_init ∈ gtbl := gtbl_in (w := Cond.methodLink RL 12 yX7_init) 541 (by rfl) (by rfl)
set_option maxRecDepth 20000 in
theorem kL_17 : Cond.methodLink RL 17 yX7_heap ∈ gtbl := gtbl_in (w := Cond.methodLink RL 17 yX7_heap) 607 (by rfl) (by rfl)
set_option maxRecDepth 20000 in
theorem kX7_52 : Cond.methodLink RX7 52 yX7_isHeap ∈ gtbl := gtbl_in (w := Cond.methodLink RX7 52 yX7_isHeap) 611 (by rfl) (by rfl)
set_option maxRecDepth 20000 in
theorem kX7_48 : Cond.methodLink RX7 48 yX7_in ∈ gtbl := gtbl_in (w := Cond.methodLink RX7 48 yX7_in) 614 (by rfl) (by rfl)
set_option maxRecDepth 20000 in
theorem kL_22 : Cond.methodLink RL 22 yX7_burners ∈ gtbl := gtbl_in (w := Cond.methodLink RL 22 yX7_burners) 617 (by rfl) (by rfl)
set_option maxRecDepth 20000 in
theorem kX7_56 : Cond.methodLink RX7 56 yX7_bits ∈ gtbl := gtbl_in (w := Cond.methodLink RX7 56 yX7_bits) 621 (by rfl) (by rfl)
set_option maxRecDepth 20000 in
theorem kL_26 : Cond.methodLink RL 26 yX7_say ∈ gtbl := gtbl_in (w := Cond.methodLink RL 26 yX7_say) 624 (by rfl) (by rfl)
set_option maxRecDepth 20000 in
theorem kL_31 : Cond.methodLink RL 31 yX7_wipe ∈ gtbl := gtbl_in (w := Cond.methodLink RL 31 yX7_wipe) 628 (by rfl) (by rfl)
set_option maxRecDepth 20000 in
theorem kL_35 : Cond.methodLink RL 35 yX7_fault ∈ gtbl := gtbl_in (w := Cond.methodLink RL 35 yX7_fault) 632 (by rfl) (by rfl)
set_option maxRecDepth 20000 in
theorem kX7_63 : Cond.methodLink RX7 63 yX7_faultOf ∈ gtbl := gtbl_in (w := Cond.methodLink RX7 63 yX7_faultOf) 636 (by rfl) (by rfl)
set_option maxRecDepth 20000 in
theorem kL_39 : Cond.methodLink RL 39 yX7_judge ∈ gtbl := gtbl_in (w := Cond.methodLink RL 39 yX7_judge) 640 (by rfl) (by rfl)
set_option maxRecDepth 20000 in
theorem kX7_117 : Cond.methodLink RX7 117 yX7_goWeeks ∈ gtbl := gtbl_in (w := Cond.methodLink RX7 117 yX7_goWeeks) 644 (by rfl) (by rfl)
set_option maxRecDepth 20000 in
theorem kX7_93 : Cond.methodLink RX7 93 yX7_asNow ∈ gtbl := gtbl_in (w := Cond.methodLink RX7 93 yX7_asNow) 648 (by rfl) (by rfl)
set_option maxRecDepth 20000 in
theorem kX7_99 : Cond.methodLink RX7 99 yX7_endNight ∈ gtbl := gtbl_in (w := Cond.methodLink RX7 99 yX7_endNight) 652 (by rfl) (by rfl)
set_option maxRecDepth 20000 in
theorem kX7_87 : Cond.methodLink RX7 87 yX7_burn ∈ gtbl := gtbl_in (w := Cond.methodLink RX7 87 yX7_burn) 656 (by rfl) (by rfl)
set_option maxRecDepth 20000 in
theorem kX7_80 : Cond.methodLink RX7 80 yX7_has ∈ gtbl := gtbl_in (w := Cond.methodLink RX7 80 yX7_has) 660 (by rfl) (by rfl)
set_option maxRecDepth 20000 in
theorem kX7_84 : Cond.methodLink RX7 84 yX7_areNear ∈ gtbl := gtbl_in (w := Cond.methodLink RX7 84 yX7_areNear) 663 (by rfl) (by rfl)
set_option maxRecDepth 20000 in
theorem kX7_76 : Cond.methodLink RX7 76 yX7_off ∈ gtbl := gtbl_in (w := Cond.methodLink RX7 76 yX7_off) 666 (by rfl) (by rfl)
set_option maxRecDepth 20000 in
theorem kX7_105 : Cond.methodLink RX7 105 yX7_turf ∈ gtbl := gtbl_in (w := Cond.methodLink RX7 105 yX7_turf) 669 (by rfl) (by rfl)
set_option maxRecDepth 20000 in
theorem kX7_108 : Cond.methodLink RX7 108 yX7_kindle ∈ gtbl := gtbl_in (w := Cond.methodLink RX7 108 yX7_kindle) 673 (by rfl) (by rfl)
set_option maxRecDepth 20000 in
theorem kX7_111 : Cond.methodLink RX7 111 yX7_watch ∈ gtbl := gtbl_in (w := Cond.methodLink RX7 111 yX7_watch) 677 (by rfl) (by rfl)
set_option maxRecDepth 20000 in
theorem kX7_114 : Cond.methodLink RX7 114 yX7_stack ∈ gtbl := gtbl_in (w := Cond.methodLink RX7 114 yX7_stack) 681 (by rfl) (by rfl)
set_option maxRecDepth 20000 in
theorem kL_43 : Cond.methodLink RL 43 yX7_done ∈ gtbl := gtbl_in (w := Cond.methodLink RL 43 yX7_done) 685 (by rfl) (by rfl)
set_option maxRecDepth 20000 in
theorem kX7_120 : Cond.methodLink RX7 120 yX7_barOfWeeks ∈ gtbl := gtbl_in (w := Cond.methodLink RX7 120 yX7_barOfWeeks) 689 (by rfl) (by rfl)
set_option maxRecDepth 20000 in
theorem kL_48 : Cond.methodLink RL 48 yX7_behind ∈ gtbl := gtbl_in (w := Cond.methodLink RL 48 yX7_behind) 693 (by rfl) (by rfl)
set_option maxRecDepth 20000 in
theorem kL_52 : Cond.methodLink RL 52 yX7_then ∈ gtbl := gtbl_in (w := Cond.methodLink RL 52 yX7_then) 697 (by rfl) (by rfl)
set_option maxRecDepth 20000 in
theorem kL_56 : Cond.methodLink RL 56 yX7_chain ∈ gtbl := gtbl_in (w := Cond.methodLink RL 56 yX7_chain) 701 (by rfl) (by rfl)
set_option maxRecDepth 20000 in
theorem kX7_123 : Cond.methodLink RX7 123 yX7_chainOf ∈ gtbl := gtbl_in (w := Cond.methodLink RX7 123 yX7_chainOf) 705 (by rfl) (by rfl)
set_option maxRecDepth 20000 in
theorem kL_61 : Cond.methodLink RL 61 yX7_cover ∈ gtbl := gtbl_in (w := Cond.methodLink RL 61 yX7_cover) 709 (by rfl) (by rfl)
set_option maxRecDepth 20000 in
theorem kL_68 : Cond.methodLink RL 68 yX7_due ∈ gtbl := gtbl_in (w := Cond.methodLink RL 68 yX7_due) 713 (by rfl) (by rfl)
set_option maxRecDepth 20000 in
theorem kX7_128 : Cond.methodLink RX7 128 yX7_canBeDrawn ∈ gtbl := gtbl_in (w := Cond.methodLink RX7 128 yX7_canBeDrawn) 718 (by rfl) (by rfl)
set_option maxRecDepth 20000 in
theorem kL_73 : Cond.methodLink RL 73 yX7_nods ∈ gtbl := gtbl_in (w := Cond.methodLink RL 73 yX7_nods) 722 (by rfl) (by rfl)
set_option maxRecDepth 20000 in
theorem kL_77 : Cond.methodLink RL 77 yX7_seen ∈ gtbl := gtbl_in (w := Cond.methodLink RL 77 yX7_seen) 726 (by rfl) (by rfl)
set_option maxRecDepth 20000 in
theorem kL_81 : Cond.methodLink RL 81 yX7_forget ∈ gtbl := gtbl_in (w := Cond.methodLink RL 81 yX7_forget) 730 (by rfl) (by rfl)
set_option maxRecDepth 20000 in
theorem kL_85 : Cond.methodLink RL 85 yX7_matter ∈ gtbl := gtbl_in (w := Cond.methodLink RL 85 yX7_matter) 734 (by rfl) (by rfl)
set_option maxRecDepth 20000 in
theorem kX7_137 : Cond.methodLink RX7 137 yX7_isFit ∈ gtbl := gtbl_in (w := Cond.methodLink RX7 137 yX7_isFit) 738 (by rfl) (by rfl)
set_option maxRecDepth 20000 in
theorem kX7_134 : Cond.methodLink RX7 134 yX7_colour ∈ gtbl := gtbl_in (w := Cond.methodLink RX7 134 yX7_colour) 742 (by rfl) (by rfl)
set_option maxRecDepth 20000 in
theorem kL_89 : Cond.methodLink RL 89 yX7_ask ∈ gtbl := gtbl_in (w := Cond.methodLink RL 89 yX7_ask) 745 (by rfl) (by rfl)
set_option maxRecDepth 20000 in
theorem kL_93 : Cond.methodLink RL 93 yX7_takes ∈ gtbl := gtbl_in (w := Cond.methodLink RL 93 yX7_takes) 750 (by rfl) (by rfl)
set_option maxRecDepth 20000 in
theorem kX7_141 : Cond.methodLink RX7 141 yX7_layWorth ∈ gtbl := gtbl_in (w := Cond.methodLink RX7 141 yX7_layWorth) 754 (by rfl) (by rfl)
set_option maxRecDepth 20000 in
theorem kL_98 : Cond.methodLink RL 98 yX7_lean ∈ gtbl := gtbl_in (w := Cond.methodLink RL 98 yX7_lean) 758 (by rfl) (by rfl)
set_option maxRecDepth 20000 in
theorem kX7_147 : Cond.methodLink RX7 147 yX7_lowest ∈ gtbl := gtbl_in (w := Cond.methodLink RX7 147 yX7_lowest) 763 (by rfl) (by rfl)
set_option maxRecDepth 20000 in
theorem kL_102 : Cond.methodLink RL 102 yX7_year ∈ gtbl := gtbl_in (w := Cond.methodLink RL 102 yX7_year) 766 (by rfl) (by rfl)
set_option maxRecDepth 20000 in
theorem kL_106 : Cond.methodLink RL 106 yX7_image ∈ gtbl := gtbl_in (w := Cond.methodLink RL 106 yX7_image) 771 (by rfl) (by rfl)
set_option maxRecDepth 20000 in
theorem kL_110 : Cond.methodLink RL 110 yX7_restore ∈ gtbl := gtbl_in (w := Cond.methodLink RL 110 yX7_restore) 775 (by rfl) (by rfl)
set_option maxRecDepth 20000 in
theorem kL_114 : Cond.methodLink RL 114 yX7_told ∈ gtbl := gtbl_in (w := Cond.methodLink RL 114 yX7_told) 779 (by rfl) (by rfl)
theorem nX3_30 : (RX3, 30, yX6_isIn, RX6) ∈ nests := List.mem_of_getElem? (i := 0) rfl
theorem nX0_43 : (RX0, 43, yX6_hasBit, RX6) ∈ nests := List.mem_of_getElem? (i := 1) rfl
theorem nX5_81 : (RX5, 81, yX6_hasBit, RX6) ∈ nests := List.mem_of_getElem? (i := 2) rfl
theorem nX1_30 : (RX1, 30, yX6_hasBit, RX6) ∈ nests := List.mem_of_getElem? (i := 3) rfl
theorem nX4_22 : (RX4, 22, yX6_colourOf, RX6) ∈ nests := List.mem_of_getElem? (i := 4) rfl
theorem E_mmax {Y : MY} {d pc index : Nat} {l st : List Value} {hp : HP} {Q : Option Value → HP → Prop} {x y : Int32} (hd : decode Y.2.1 pc = .ok (.invokestatic index, 3)) (hlk : Cond.methodLink Y.1 index Lib.Math.max.name ∈ gtbl) (hroom : (st.map fun v => v.category).sum ≤ 8) (kk : E Y (d + 1) (pc + 3) l (.int (if x < y then y else x) :: st) hp Q) : E Y (d + 1) pc l (.int y :: .int x :: st) hp Q := by
  intro p lch e R s m args below meth c H locs cells slots ad D cI cZ A H0 Qm ls hC hW hl hR
  have hts : ∀ w ∈ gtbl, w.before args s = true := hC.2.2.2.2.2.2.1
  have h1 := hC.2.2.2.2.2.2.2.2.1
  have h2 := hC.2.2.2.2.2.2.2.2.2.1
  exact va_mmax hC.1 hC.2.1 (hC.2.2.1.trans hl.1.symm) hC.2.2.2.2.2.1 (hts _ hlk) (hts _ lm_max.1) (hts _ lm_max.2.1) (hts _ lm_max.2.2) (by omega) (by rw [sum_cat]; omega) hC.2.2.2.2.2.2.2.2.2.2.1 hC.2.2.2.2.2.2.2.2.2.2.2 hd (kk p lch e R s m args below meth c H locs cells slots ad D cI cZ A H0 Qm ls hC hW hl hR)
theorem E_mmin {Y : MY} {d pc index : Nat} {l st : List Value} {hp : HP} {Q : Option Value → HP → Prop} {x y : Int32} (hd : decode Y.2.1 pc = .ok (.invokestatic index, 3)) (hlk : Cond.methodLink Y.1 index Lib.Math.min.name ∈ gtbl) (hroom : (st.map fun v => v.category).sum ≤ 8) (kk : E Y (d + 1) (pc + 3) l (.int (if y < x then y else x) :: st) hp Q) : E Y (d + 1) pc l (.int y :: .int x :: st) hp Q := by
  intro p lch e R s m args below meth c H locs cells slots ad D cI cZ A H0 Qm ls hC hW hl hR
  have hts : ∀ w ∈ gtbl, w.before args s = true := hC.2.2.2.2.2.2.1
  have h1 := hC.2.2.2.2.2.2.2.2.1
  have h2 := hC.2.2.2.2.2.2.2.2.2.1
  exact va_mmin hC.1 hC.2.1 (hC.2.2.1.trans hl.1.symm) hC.2.2.2.2.2.1 (hts _ hlk) (hts _ lm_min.1) (hts _ lm_min.2.1) (hts _ lm_min.2.2) (by omega) (by rw [sum_cat]; omega) hC.2.2.2.2.2.2.2.2.2.2.1 hC.2.2.2.2.2.2.2.2.2.2.2 hd (kk p lch e R s m args below meth c H locs cells slots ad D cI cZ A H0 Qm ls hC hW hl hR)
theorem E_mabs {Y : MY} {d pc index : Nat} {l st : List Value} {hp : HP} {Q : Option Value → HP → Prop} {x : Int32} (hd : decode Y.2.1 pc = .ok (.invokestatic index, 3)) (hlk : Cond.methodLink Y.1 index Lib.Math.abs.name ∈ gtbl) (hroom : (st.map fun v => v.category).sum ≤ 8) (kk : E Y (d + 1) (pc + 3) l (.int (if 0 ≤ x then x else 0 - x) :: st) hp Q) : E Y (d + 1) pc l (.int x :: st) hp Q := by
  intro p lch e R s m args below meth c H locs cells slots ad D cI cZ A H0 Qm ls hC hW hl hR
  have hts : ∀ w ∈ gtbl, w.before args s = true := hC.2.2.2.2.2.2.1
  have h1 := hC.2.2.2.2.2.2.2.2.1
  have h2 := hC.2.2.2.2.2.2.2.2.2.1
  exact va_mabs hC.1 hC.2.1 (hC.2.2.1.trans hl.1.symm) hC.2.2.2.2.2.1 (hts _ hlk) (hts _ lm_abs.1) (hts _ lm_abs.2.1) (hts _ lm_abs.2.2) (by omega) (by rw [sum_cat]; omega) hC.2.2.2.2.2.2.2.2.2.2.1 hC.2.2.2.2.2.2.2.2.2.2.2 hd (kk p lch e R s m args below meth c H locs cells slots ad D cI cZ A H0 Qm ls hC hW hl hR)
end
section
/-! heaps as a base and a short list of what was written over it -/
def hov (hp : HP) : List (Nat × AC) → HP
  | [] => hp
  | q :: L => fun j => bif Nat.beq j q.1 then q.2 else hov hp L j
def ins : List (Nat × AC) → Nat → AC → List (Nat × AC)
  | [], k, x => [(k, x)]
  | q :: L, k, x => bif Nat.beq k q.1 then (k, x) :: L else bif Nat.blt k q.1 then (k, x) :: q :: L else q :: ins L k x
def mrg (L : List (Nat × AC)) : List (Nat × AC) → List (Nat × AC)
  | [] => L
  | q :: M => ins (mrg L M) q.1 q.2
theorem hov_cons {hp : HP} {q : Nat × AC} {L : List (Nat × AC)} {j : Nat} : hov hp (q :: L) j = if j = q.1 then q.2 else hov hp L j := by
  show (bif Nat.beq j q.1 then q.2 else hov hp L j) = _
  by_cases h : j = q.1
  · rw [if_pos h, show Nat.beq j q.1 = true from Nat.beq_eq.mpr h]; rfl
  · rw [if_neg h, show Nat.beq j q.1 = false from by cases hb : Nat.beq j q.1 with | false => rfl | true => exact absurd (Nat.beq_eq.mp hb) h]; rfl
theorem hov_ins (hp : HP) : ∀ (L : List (Nat × AC)) (k : Nat) (x : AC), hov hp (ins L k x) = hup (hov hp L) k x
  | [], k, x => by
    funext j
    rw [ins, hov_cons]
    rfl
  | q :: L, k, x => by
    funext j
    rw [ins]
    cases hb : Nat.beq k q.1 with
    | true =>
      have hk : k = q.1 := Nat.beq_eq.mp hb
      show hov hp ((k, x) :: L) j = _
      rw [hov_cons]
      show _ = if j = k then x else hov hp (q :: L) j
      by_cases h : j = k
      · rw [if_pos h, if_pos h]
      · rw [if_neg h, if_neg h, hov_cons, if_neg (by rw [← hk]; exact h)]
    | false =>
      cases hl : Nat.blt k q.1 with
      | true =>
        show hov hp ((k, x) :: q :: L) j = _
        rw [hov_cons]
        rfl
      | false =>
        show hov hp (q :: ins L k x) j = if j = k then x else hov hp (q :: L) j
        have hne : ¬ k = q.1 := fun h => by rw [h, show Nat.beq q.1 q.1 = true from Nat.beq_eq.mpr rfl] at hb; cases hb
        rw [hov_cons, hov_cons, hov_ins hp L k x]
        show (if j = q.1 then q.2 else (if j = k then x else hov hp L j)) = _
        by_cases h1 : j = q.1
        · rw [if_pos h1, if_neg (by rw [h1]; exact fun h => hne h.symm), if_pos h1]
        · rw [if_neg h1, if_neg h1]
theorem hov_mrg (hp : HP) (L : List (Nat × AC)) : ∀ (M : List (Nat × AC)), hov (hov hp L) M = hov hp (mrg L M)
  | [] => rfl
  | q :: M => by
    rw [mrg, hov_ins]
    funext j
    rw [hov_cons]
    show _ = if j = q.1 then q.2 else hov hp (mrg L M) j
    rw [← hov_mrg hp L M]
/-! small numbers -/
def b2i (b : Bool) : Int32 := bif b then 1 else 0
theorem b2i_e0 {b : Bool} (h : b2i b = 0) : b = false := by cases b <;> first | rfl | exact absurd h (by decide)
theorem b2i_n0 {b : Bool} (h : ¬ b2i b = 0) : b = true := by cases b <;> first | rfl | exact absurd rfl h
theorem b2i_nar (b : Bool) : narrow .boolean (.int (b2i b)) = .int (b2i b) := by cases b <;> decide
theorem b2i_t {b : Bool} (h : b = true) : (1 : Int32) = b2i b := by subst h; rfl
theorem b2i_f {b : Bool} (h : b = false) : (0 : Int32) = b2i b := by subst h; rfl
theorem b2i_x1 {b : Bool} (h : b = true) (c : b2i b = 0) : False := by subst h; exact absurd c (by decide)
theorem b2i_x0 {b : Bool} (h : b = false) (c : ¬ b2i b = 0) : False := by subst h; exact absurd rfl c
theorem down {P : Nat → Prop} (n : Nat) (hx : P n) (hs : ∀ i, i < n → P (i + 1) → P i) : ∀ i, i ≤ n → P i := by
  have key : ∀ k, k ≤ n → P (n - k) := by
    intro k
    induction k with
    | zero => intro _; exact hx
    | succ k ih =>
      intro hk
      have h1 := ih (by omega)
      have h2 : n - k = (n - (k + 1)) + 1 := by omega
      rw [h2] at h1
      exact hs _ (by omega) h1
  intro i hi
  have := key (n - i) (by omega)
  rwa [show n - (n - i) = i by omega] at this
theorem cI_lt {i n : Nat} {c : Int32} (hc : c = nI n) (h : i < n) (hn : n < 2 ^ 31) : nI i < c := by rw [hc]; exact nI_lt h hn
theorem cI_nlt {i n : Nat} {c : Int32} (hc : c = nI n) (h : n ≤ i) (hn : i < 2 ^ 31) : ¬ nI i < c := by rw [hc]; exact nI_nlt h hn
theorem cI_le {i n : Nat} {c : Int32} (hc : c = nI n) (h : n ≤ i) (hn : i < 2 ^ 31) : c ≤ nI i := by rw [hc]; exact nI_le h hn
theorem cI_nle {i n : Nat} {c : Int32} (hc : c = nI n) (h : i < n) (hn : n < 2 ^ 31) : ¬ c ≤ nI i := by rw [hc]; exact nI_ge h hn
def absI (x : Int32) : Int32 := if 0 ≤ x then x else 0 - x
def maxI (x y : Int32) : Int32 := if x < y then y else x
def minI (x y : Int32) : Int32 := if y < x then y else x
/-! the walk over heaps of this form -/
section
variable {Y : MY} {d pc : Nat} {l st : List Value} {hp : HP} {L L2 : List (Nat × AC)} {Q : Option Value → HP → Prop}
theorem E_nm {x : Int32} (kk : ∀ z : Int32, z = x → E Y d pc l (.int z :: st) hp Q) : E Y d pc l (.int x :: st) hp Q := kk x rfl
theorem E_nml {x : Int64} (kk : ∀ z : Int64, z = x → E Y d pc l (.long z :: st) hp Q) : E Y d pc l (.long x :: st) hp Q := kk x rfl
theorem E_eqi {x y : Int32} (h : x = y) (kk : E Y d pc l (.int y :: st) hp Q) : E Y d pc l (.int x :: st) hp Q := h ▸ kk
theorem E_eql {x y : Int64} (h : x = y) (kk : E Y d pc l (.long y :: st) hp Q) : E Y d pc l (.long x :: st) hp Q := h ▸ kk
theorem E_ialdN {a n j : Nat} {f : Nat → Int32} (hd : decode Y.2.1 pc = .ok (.iaload, 1)) (ha : LV a) (hk : hp a = .inl (false, n, f)) (hj : j < n) (hn : n < 2 ^ 31) (kk : E Y d (pc + 1) l (.int (f j) :: st) hp Q) : E Y d pc l (.int (nI j) :: .ref a :: st) hp Q := by
  refine E_iald hd ha hk (vp_in_nI hj hn) ?_
  rw [nI_clamp (by omega)]
  exact kk
theorem E_zaldN {a n j : Nat} {f : Nat → Int32} (hd : decode Y.2.1 pc = .ok (.baload, 1)) (ha : LV a) (hk : hp a = .inl (true, n, f)) (hj : j < n) (hn : n < 2 ^ 31) (kk : E Y d (pc + 1) l (.int (f j) :: st) hp Q) : E Y d pc l (.int (nI j) :: .ref a :: st) hp Q := by
  refine E_zald hd ha hk (vp_in_nI hj hn) ?_
  rw [nI_clamp (by omega)]
  exact kk
theorem E_iastN {a n j : Nat} {f f2 : Nat → Int32} {x : Int32} (hd : decode Y.2.1 pc = .ok (.iastore, 1)) (ha : LV a) (hk : hov hp L a = .inl (false, n, f)) (hj : j < n) (hn : n < 2 ^ 31) (hf : upd f j x = f2) (hL : ins L a (.inl (false, n, f2)) = L2) (kk : E Y d (pc + 1) l st (hov hp L2) Q) : E Y d pc l (.int x :: .int (nI j) :: .ref a :: st) (hov hp L) Q := by
  refine E_iast hd ha hk (vp_in_nI hj hn) (f2 := f2) (by rw [nI_clamp (by omega)]; exact hf) ?_
  rw [← hov_ins, hL]
  exact kk
theorem E_zastN {a n j : Nat} {f f2 : Nat → Int32} {x : Int32} (hd : decode Y.2.1 pc = .ok (.bastore, 1)) (ha : LV a) (hk : hov hp L a = .inl (true, n, f)) (hj : j < n) (hn : n < 2 ^ 31) (hf : upd f j (vp_nar .boolean x) = f2) (hL : ins L a (.inl (true, n, f2)) = L2) (kk : E Y d (pc + 1) l st (hov hp L2) Q) : E Y d pc l (.int x :: .int (nI j) :: .ref a :: st) (hov hp L) Q := by
  refine E_zast hd ha hk (vp_in_nI hj hn) (f2 := f2) (by rw [nI_clamp (by omega)]; exact hf) ?_
  rw [← hov_ins, hL]
  exact kk
theorem E_puti {index ci k a : Nat} {fs fs2 : List Value} {x : Int32} (hd : decode Y.2.1 pc = .ok (.putfield index, 3)) (hF : FLK Y.1 index ci k .int) (hf : FLP ci k) (ha : LV a) (hk : hov hp L a = .inr (ci, fs)) (hkl : k < fs.length) (hfs : fs.set k (.int x) = fs2) (hL : ins L a (.inr (ci, fs2)) = L2) (kk : E Y d (pc + 3) l st (hov hp L2) Q) : E Y d pc l (.int x :: .ref a :: st) (hov hp L) Q := by
  refine E_put hd hF hf ha hk (fun _ => ⟨rfl, rfl⟩) hkl hfs ?_
  rw [← hov_ins, hL]
  exact kk
theorem E_putz {index ci k a : Nat} {fs fs2 : List Value} {b : Bool} (hd : decode Y.2.1 pc = .ok (.putfield index, 3)) (hF : FLK Y.1 index ci k .boolean) (hf : FLP ci k) (ha : LV a) (hk : hov hp L a = .inr (ci, fs)) (hkl : k < fs.length) (hfs : fs.set k (.int (b2i b)) = fs2) (hL : ins L a (.inr (ci, fs2)) = L2) (kk : E Y d (pc + 3) l st (hov hp L2) Q) : E Y d pc l (.int (b2i b) :: .ref a :: st) (hov hp L) Q := by
  refine E_put hd hF hf ha hk (fun _ => ⟨b2i_nar b, by cases b <;> rfl⟩) hkl hfs ?_
  rw [← hov_ins, hL]
  exact kk
/-- a contract: from what is told of the heap, to its answer and what is told then -/
def FC (Y : MY) (d : Nat) (l : List Value) (L0 : List (Nat × AC)) (r : Option Value) (M : List (Nat × AC)) : Prop := ∀ hp : HP, E Y d 0 l [] (hov hp L0) (fun v h => v = r ∧ h = hov hp M)
theorem FC.use {L0 M : List (Nat × AC)} {v : Option Value} (h : FC Y d l L0 v M) (h0 : mrg L L0 = L) (hm : mrg L M = L2) : E Y d 0 l [] (hov hp L) (fun r h => r = v ∧ h = hov hp L2) := by
  have h1 := h (hov hp L)
  rw [hov_mrg, h0] at h1
  refine E_mono h1 (fun v h' hq => ⟨hq.1, ?_⟩)
  rw [hq.2, hov_mrg, hm]
theorem E_fgo {r v : Option Value} {h' : HP} (kk : E Y d pc l (r.toList ++ st) (hov hp L2) Q) (hq : v = r ∧ h' = hov hp L2) : E Y d pc l (v.toList ++ st) h' Q := by
  obtain ⟨rfl, rfl⟩ := hq
  exact kk
/-- a contract whose answer is told by a relation -/
def FR (Y : MY) (d : Nat) (l : List Value) (L0 : List (Nat × AC)) (R : Option Value → List (Nat × AC) → Prop) : Prop := ∀ hp : HP, E Y d 0 l [] (hov hp L0) (fun v h => ∃ M, h = hov hp M ∧ R v M)
theorem FR.use {L0 : List (Nat × AC)} {R : Option Value → List (Nat × AC) → Prop} (h : FR Y d l L0 R) (h0 : mrg L L0 = L) : E Y d 0 l [] (hov hp L) (fun v h => ∃ M, h = hov hp (mrg L M) ∧ R v M) := by
  have h1 := h (hov hp L)
  rw [hov_mrg, h0] at h1
  refine E_mono h1 (fun v h' hq => ?_)
  obtain ⟨M, e, hr⟩ := hq
  exact ⟨M, by rw [e, hov_mrg], hr⟩
theorem E_iretf {x r : Int32} {ty : FieldType} {M : List (Nat × AC)} (hd : decode Y.2.1 pc = .ok (.ireturn, 1)) (hr : Y.2.2.2.1 = some ty) (hn : narrow ty (.int r) = .int r) (hx : x = r) (hL : L = M) : E Y d pc l [.int x] (hov hp L) (fun v h => v = some (.int r) ∧ h = hov hp M) := by
  subst hx; subst hL
  exact E_iret (st := []) hd hr hn ⟨rfl, rfl⟩
theorem E_lretf {x r : Int64} {M : List (Nat × AC)} (hd : decode Y.2.1 pc = .ok (.lreturn, 1)) (hr : Y.2.2.2.1 = some .long) (hx : x = r) (hL : L = M) : E Y d pc l [.long x] (hov hp L) (fun v h => v = some (.long r) ∧ h = hov hp M) := by
  subst hx; subst hL
  exact E_lret (st := []) hd hr ⟨rfl, rfl⟩
theorem E_vretf {M : List (Nat × AC)} (hd : decode Y.2.1 pc = .ok (.return_, 1)) (hr : Y.2.2.2.1 = none) (hL : L = M) : E Y d pc l [] (hov hp L) (fun v h => v = none ∧ h = hov hp M) := by
  subst hL
  exact E_vret (st := []) hd hr ⟨rfl, rfl⟩
theorem E_Mabs {index : Nat} {x : Int32} (hd : decode Y.2.1 pc = .ok (.invokestatic index, 3)) (hlk : Cond.methodLink Y.1 index Lib.Math.abs.name ∈ gtbl) (hroom : (st.map fun v => v.category).sum ≤ 8) (kk : E Y (d + 1) (pc + 3) l (.int (absI x) :: st) hp Q) : E Y (d + 1) pc l (.int x :: st) hp Q := E_mabs hd hlk hroom kk
theorem E_Mmax {index : Nat} {x y : Int32} (hd : decode Y.2.1 pc = .ok (.invokestatic index, 3)) (hlk : Cond.methodLink Y.1 index Lib.Math.max.name ∈ gtbl) (hroom : (st.map fun v => v.category).sum ≤ 8) (kk : E Y (d + 1) (pc + 3) l (.int (maxI x y) :: st) hp Q) : E Y (d + 1) pc l (.int y :: .int x :: st) hp Q := E_mmax hd hlk hroom kk
theorem E_Mmin {index : Nat} {x y : Int32} (hd : decode Y.2.1 pc = .ok (.invokestatic index, 3)) (hlk : Cond.methodLink Y.1 index Lib.Math.min.name ∈ gtbl) (hroom : (st.map fun v => v.category).sum ≤ 8) (kk : E Y (d + 1) (pc + 3) l (.int (minI x y) :: st) hp Q) : E Y (d + 1) pc l (.int y :: .int x :: st) hp Q := E_mmin hd hlk hroom kk
end
end
