def RX0 : String := "TwinBoot$Device"
def TX0 : u_T := fun k => match k with
  | 0 => ("TwinBoot$Device", "flash", "LTwinBoot$Flash;", true)
  | 1 => ("TwinBoot$Device", "log", "LTwinBoot$Log;", true)
  | 2 => ("TwinBoot$Device", "ledger", "LTwinBoot$Ledger;", true)
  | 3 => ("TwinBoot$Device", "moved", "[I", true)
  | 4 => ("TwinBoot$Device", "staged", "[I", true)
  | 5 => ("TwinBoot$Device", "stagedCount", "I", false)
  | 6 => ("TwinBoot$Device", "mostTries", "I", false)
  | 7 => ("TwinBoot$Device", "state", "I", false)
  | _ => ("TwinBoot$Device", "running", "I", false)
def tyX0 : Nat → FieldType := fun k => match k with
  | 0 => .object "TwinBoot$Flash"
  | 1 => .object "TwinBoot$Log"
  | 2 => .object "TwinBoot$Ledger"
  | 3 => .array .int
  | 4 => .array .int
  | 5 => .int
  | 6 => .int
  | 7 => .int
  | _ => .int
abbrev wsX00 : List Cond := u_ws RX0 TX0 9
theorem nmX0 : ∀ a, a < 9 → ∀ b, b < 9 → a ≠ b → (TX0 a).2.1 ≠ (TX0 b).2.1 := by decide +kernel
theorem tyX0_ok : ∀ k, k < 9 → parseFieldDescriptor (TX0 k).2.2.1 = some (tyX0 k) := by decide +kernel
abbrev cX0_init : ByteArray := prog_2_method_1_code
def yX0_init : MethodName := ⟨RX0, "<init>", "()V"⟩
abbrev cX0_begin : ByteArray := prog_2_method_2_code
def yX0_begin : MethodName := ⟨RX0, "begin", "(LTwinBoot$Plan;)V"⟩
abbrev cX0_copyFrom : ByteArray := prog_2_method_3_code
def yX0_copyFrom : MethodName := ⟨RX0, "copyFrom", "(LTwinBoot$Device;)V"⟩
abbrev cX0_switchOff : ByteArray := prog_2_method_4_code
def yX0_switchOff : MethodName := ⟨RX0, "switchOff", "()V"⟩
abbrev cX0_note : ByteArray := prog_2_method_5_code
def yX0_note : MethodName := ⟨RX0, "note", "(II)V"⟩
abbrev cX0_losePower : ByteArray := prog_2_method_6_code
def yX0_losePower : MethodName := ⟨RX0, "losePower", "()I"⟩
abbrev cX0_canStart : ByteArray := prog_2_method_7_code
def yX0_canStart : MethodName := ⟨RX0, "canStart", "(I)Z"⟩
abbrev cX0_formatJournal : ByteArray := prog_2_method_8_code
def yX0_formatJournal : MethodName := ⟨RX0, "formatJournal", "()Z"⟩
abbrev cX0_moveRecords : ByteArray := prog_2_method_9_code
def yX0_moveRecords : MethodName := ⟨RX0, "moveRecords", "()Z"⟩
abbrev cX0_gatherRecords : ByteArray := prog_2_method_10_code
def yX0_gatherRecords : MethodName := ⟨RX0, "gatherRecords", "()I"⟩
abbrev cX0_appendRecord : ByteArray := prog_2_method_11_code
def yX0_appendRecord : MethodName := ⟨RX0, "appendRecord", "(II)Z"⟩
abbrev cX0_noteRecord : ByteArray := prog_2_method_12_code
def yX0_noteRecord : MethodName := ⟨RX0, "noteRecord", "(II)V"⟩
abbrev cX0_startUp : ByteArray := prog_2_method_13_code
def yX0_startUp : MethodName := ⟨RX0, "startUp", "()I"⟩
abbrev cX0_run : ByteArray := prog_2_method_14_code
def yX0_run : MethodName := ⟨RX0, "run", "(I)I"⟩
abbrev cX0_waitForRecovery : ByteArray := prog_2_method_15_code
def yX0_waitForRecovery : MethodName := ⟨RX0, "waitForRecovery", "()I"⟩
abbrev cX0_runsGoodSlot : ByteArray := prog_2_method_16_code
def yX0_runsGoodSlot : MethodName := ⟨RX0, "runsGoodSlot", "()Z"⟩
abbrev cX0_updateOther : ByteArray := prog_2_method_17_code
def yX0_updateOther : MethodName := ⟨RX0, "updateOther", "(IZ)I"⟩
abbrev cX0_mirrorRunning : ByteArray := prog_2_method_18_code
def yX0_mirrorRunning : MethodName := ⟨RX0, "mirrorRunning", "()I"⟩
abbrev cX0_moveByHand : ByteArray := prog_2_method_19_code
def yX0_moveByHand : MethodName := ⟨RX0, "moveByHand", "()I"⟩
abbrev cX0_confirmRunning : ByteArray := prog_2_method_20_code
def yX0_confirmRunning : MethodName := ⟨RX0, "confirmRunning", "()I"⟩
abbrev cX0_recoverSlot : ByteArray := prog_2_method_21_code
def yX0_recoverSlot : MethodName := ⟨RX0, "recoverSlot", "(II)I"⟩
def RX1 : String := "TwinBoot$Flash"
def TX1 : u_T := fun k => match k with
  | 0 => ("TwinBoot$Flash", "cells", "[[I", true)
  | 1 => ("TwinBoot$Flash", "wear", "[[I", true)
  | 2 => ("TwinBoot$Flash", "words", "I", false)
  | 3 => ("TwinBoot$Flash", "page", "I", false)
  | 4 => ("TwinBoot$Flash", "pages", "I", false)
  | 5 => ("TwinBoot$Flash", "journal", "I", false)
  | 6 => ("TwinBoot$Flash", "life", "I", false)
  | 7 => ("TwinBoot$Flash", "power", "I", false)
  | _ => ("TwinBoot$Flash", "operations", "I", false)
def tyX1 : Nat → FieldType := fun k => match k with
  | 0 => .array (.array .int)
  | 1 => .array (.array .int)
  | 2 => .int
  | 3 => .int
  | 4 => .int
  | 5 => .int
  | 6 => .int
  | 7 => .int
  | _ => .int
abbrev wsX10 : List Cond := u_ws RX1 TX1 9
theorem nmX1 : ∀ a, a < 9 → ∀ b, b < 9 → a ≠ b → (TX1 a).2.1 ≠ (TX1 b).2.1 := by decide +kernel
theorem tyX1_ok : ∀ k, k < 9 → parseFieldDescriptor (TX1 k).2.2.1 = some (tyX1 k) := by decide +kernel
abbrev cX1_init : ByteArray := prog_3_method_1_code
def yX1_init : MethodName := ⟨RX1, "<init>", "()V"⟩
abbrev cX1_begin : ByteArray := prog_3_method_2_code
def yX1_begin : MethodName := ⟨RX1, "begin", "(LTwinBoot$Plan;)V"⟩
abbrev cX1_copyFrom : ByteArray := prog_3_method_3_code
def yX1_copyFrom : MethodName := ⟨RX1, "copyFrom", "(LTwinBoot$Flash;)V"⟩
abbrev cX1_room : ByteArray := prog_3_method_4_code
def yX1_room : MethodName := ⟨RX1, "room", "()I"⟩
abbrev cX1_pagesOf : ByteArray := prog_3_method_5_code
def yX1_pagesOf : MethodName := ⟨RX1, "pagesOf", "(I)I"⟩
abbrev cX1_takePower : ByteArray := prog_3_method_6_code
def yX1_takePower : MethodName := ⟨RX1, "takePower", "()Z"⟩
abbrev cX1_write : ByteArray := prog_3_method_7_code
def yX1_write : MethodName := ⟨RX1, "write", "(III)Z"⟩
abbrev cX1_eraseSlotPage : ByteArray := prog_3_method_8_code
def yX1_eraseSlotPage : MethodName := ⟨RX1, "eraseSlotPage", "(II)Z"⟩
abbrev cX1_eraseJournalPage : ByteArray := prog_3_method_9_code
def yX1_eraseJournalPage : MethodName := ⟨RX1, "eraseJournalPage", "(I)Z"⟩
abbrev cX1_loseBits : ByteArray := prog_3_method_10_code
def yX1_loseBits : MethodName := ⟨RX1, "loseBits", "(III)I"⟩
abbrev cX1_sum : ByteArray := prog_3_method_11_code
def yX1_sum : MethodName := ⟨RX1, "sum", "(II[I)I"⟩
abbrev cX1_sumOf : ByteArray := prog_3_method_12_code
def yX1_sumOf : MethodName := ⟨RX1, "sumOf", "(I)I"⟩
abbrev cX1_holdsImage : ByteArray := prog_3_method_13_code
def yX1_holdsImage : MethodName := ⟨RX1, "holdsImage", "(I)Z"⟩
abbrev cX1_mustErase : ByteArray := prog_3_method_14_code
def yX1_mustErase : MethodName := ⟨RX1, "mustErase", "(II[II)Z"⟩
abbrev cX1_writeImage : ByteArray := prog_3_method_15_code
def yX1_writeImage : MethodName := ⟨RX1, "writeImage", "(II[IIZ)Z"⟩
def RX2 : String := "TwinBoot$Ledger"
def TX2 : u_T := fun k => match k with
  | 0 => ("TwinBoot$Ledger", "page", "I", false)
  | 1 => ("TwinBoot$Ledger", "generation", "I", false)
  | 2 => ("TwinBoot$Ledger", "next", "I", false)
  | 3 => ("TwinBoot$Ledger", "count", "I", false)
  | 4 => ("TwinBoot$Ledger", "spoiled", "I", false)
  | 5 => ("TwinBoot$Ledger", "floor", "I", false)
  | 6 => ("TwinBoot$Ledger", "good", "I", false)
  | 7 => ("TwinBoot$Ledger", "fresh", "I", false)
  | 8 => ("TwinBoot$Ledger", "tries", "I", false)
  | _ => ("TwinBoot$Ledger", "bad", "I", false)
def tyX2 : Nat → FieldType := fun k => match k with
  | 0 => .int
  | 1 => .int
  | 2 => .int
  | 3 => .int
  | 4 => .int
  | 5 => .int
  | 6 => .int
  | 7 => .int
  | 8 => .int
  | _ => .int
abbrev wsX20 : List Cond := u_ws RX2 TX2 10
theorem nmX2 : ∀ a, a < 10 → ∀ b, b < 10 → a ≠ b → (TX2 a).2.1 ≠ (TX2 b).2.1 := by decide +kernel
theorem tyX2_ok : ∀ k, k < 10 → parseFieldDescriptor (TX2 k).2.2.1 = some (tyX2 k) := by decide +kernel
abbrev cX2_init : ByteArray := prog_4_method_1_code
def yX2_init : MethodName := ⟨RX2, "<init>", "()V"⟩
abbrev cX2_wordOf : ByteArray := prog_4_method_2_code
def yX2_wordOf : MethodName := ⟨RX2, "wordOf", "(II)I"⟩
abbrev cX2_kindOf : ByteArray := prog_4_method_3_code
def yX2_kindOf : MethodName := ⟨RX2, "kindOf", "(I)I"⟩
abbrev cX2_valueOf : ByteArray := prog_4_method_4_code
def yX2_valueOf : MethodName := ⟨RX2, "valueOf", "(I)I"⟩
abbrev cX2_rightKind : ByteArray := prog_4_method_5_code
def yX2_rightKind : MethodName := ⟨RX2, "rightKind", "(I)I"⟩
abbrev cX2_isEntry : ByteArray := prog_4_method_6_code
def yX2_isEntry : MethodName := ⟨RX2, "isEntry", "(I)Z"⟩
abbrev cX2_activePageOf : ByteArray := prog_4_method_7_code
def yX2_activePageOf : MethodName := ⟨RX2, "activePageOf", "(II)I"⟩
abbrev cX2_readFrom : ByteArray := prog_4_method_8_code
def yX2_readFrom : MethodName := ⟨RX2, "readFrom", "(LTwinBoot$Flash;)V"⟩
abbrev cX2_take : ByteArray := prog_4_method_9_code
def yX2_take : MethodName := ⟨RX2, "take", "(II)V"⟩
abbrev cX2_forgetFresh : ByteArray := prog_4_method_10_code
def yX2_forgetFresh : MethodName := ⟨RX2, "forgetFresh", "(I)V"⟩
abbrev cX2_isBad : ByteArray := prog_4_method_11_code
def yX2_isBad : MethodName := ⟨RX2, "isBad", "(I)Z"⟩
abbrev cX2_placeOf : ByteArray := prog_4_method_12_code
def yX2_placeOf : MethodName := ⟨RX2, "placeOf", "(ILTwinBoot$Flash;)I"⟩
abbrev cX2_part : ByteArray := prog_4_method_13_code
def yX2_part : MethodName := ⟨RX2, "part", "(I)I"⟩
def RX3 : String := "TwinBoot$Log"
def TX3 : u_T := fun k => match k with
  | 0 => ("TwinBoot$Log", "events", "[I", true)
  | 1 => ("TwinBoot$Log", "numbers", "[I", true)
  | 2 => ("TwinBoot$Log", "times", "[I", true)
  | 3 => ("TwinBoot$Log", "counts", "[I", true)
  | _ => ("TwinBoot$Log", "total", "I", false)
def tyX3 : Nat → FieldType := fun k => match k with
  | 0 => .array .int
  | 1 => .array .int
  | 2 => .array .int
  | 3 => .array .int
  | _ => .int
abbrev wsX30 : List Cond := u_ws RX3 TX3 5
theorem nmX3 : ∀ a, a < 5 → ∀ b, b < 5 → a ≠ b → (TX3 a).2.1 ≠ (TX3 b).2.1 := by decide +kernel
theorem tyX3_ok : ∀ k, k < 5 → parseFieldDescriptor (TX3 k).2.2.1 = some (tyX3 k) := by decide +kernel
abbrev cX3_init : ByteArray := prog_5_method_1_code
def yX3_init : MethodName := ⟨RX3, "<init>", "()V"⟩
abbrev cX3_clear : ByteArray := prog_5_method_2_code
def yX3_clear : MethodName := ⟨RX3, "clear", "()V"⟩
abbrev cX3_copyFrom : ByteArray := prog_5_method_3_code
def yX3_copyFrom : MethodName := ⟨RX3, "copyFrom", "(LTwinBoot$Log;)V"⟩
abbrev cX3_note : ByteArray := prog_5_method_4_code
def yX3_note : MethodName := ⟨RX3, "note", "(III)V"⟩
abbrev cX3_size : ByteArray := prog_5_method_5_code
def yX3_size : MethodName := ⟨RX3, "size", "()I"⟩
def RX4 : String := "TwinBoot$Plan"
def TX4 : u_T := fun k => match k with
  | 0 => ("TwinBoot$Plan", "images", "[[I", true)
  | 1 => ("TwinBoot$Plan", "words", "I", false)
  | 2 => ("TwinBoot$Plan", "page", "I", false)
  | 3 => ("TwinBoot$Plan", "journal", "I", false)
  | 4 => ("TwinBoot$Plan", "tries", "I", false)
  | 5 => ("TwinBoot$Plan", "life", "I", false)
  | 6 => ("TwinBoot$Plan", "floor", "I", false)
  | 7 => ("TwinBoot$Plan", "good", "I", false)
  | _ => ("TwinBoot$Plan", "given", "I", false)
def tyX4 : Nat → FieldType := fun k => match k with
  | 0 => .array (.array .int)
  | 1 => .int
  | 2 => .int
  | 3 => .int
  | 4 => .int
  | 5 => .int
  | 6 => .int
  | 7 => .int
  | _ => .int
abbrev wsX40 : List Cond := u_ws RX4 TX4 9
theorem nmX4 : ∀ a, a < 9 → ∀ b, b < 9 → a ≠ b → (TX4 a).2.1 ≠ (TX4 b).2.1 := by decide +kernel
theorem tyX4_ok : ∀ k, k < 9 → parseFieldDescriptor (TX4 k).2.2.1 = some (tyX4 k) := by decide +kernel
abbrev cX4_init : ByteArray := prog_6_method_1_code
def yX4_init : MethodName := ⟨RX4, "<init>", "()V"⟩
abbrev cX4_clear : ByteArray := prog_6_method_2_code
def yX4_clear : MethodName := ⟨RX4, "clear", "()V"⟩
def RX5 : String := "TwinBoot$Text"
def TX5 : u_T := fun k => match k with
  | 0 => ("TwinBoot$Text", "bytes", "[B", true)
  | 1 => ("TwinBoot$Text", "plan", "LTwinBoot$Plan;", true)
  | 2 => ("TwinBoot$Text", "length", "I", false)
  | 3 => ("TwinBoot$Text", "at", "I", false)
  | 4 => ("TwinBoot$Text", "number", "I", false)
  | 5 => ("TwinBoot$Text", "numberAt", "I", false)
  | 6 => ("TwinBoot$Text", "error", "I", false)
  | _ => ("TwinBoot$Text", "errorAt", "I", false)
def tyX5 : Nat → FieldType := fun k => match k with
  | 0 => .array .byte
  | 1 => .object "TwinBoot$Plan"
  | 2 => .int
  | 3 => .int
  | 4 => .int
  | 5 => .int
  | 6 => .int
  | _ => .int
abbrev wsX50 : List Cond := u_ws RX5 TX5 8
theorem nmX5 : ∀ a, a < 8 → ∀ b, b < 8 → a ≠ b → (TX5 a).2.1 ≠ (TX5 b).2.1 := by decide +kernel
theorem tyX5_ok : ∀ k, k < 8 → parseFieldDescriptor (TX5 k).2.2.1 = some (tyX5 k) := by decide +kernel
abbrev cX5_init : ByteArray := prog_7_method_1_code
def yX5_init : MethodName := ⟨RX5, "<init>", "()V"⟩
abbrev cX5_add : ByteArray := prog_7_method_2_code
def yX5_add : MethodName := ⟨RX5, "add", "(J)I"⟩
abbrev cX5_read : ByteArray := prog_7_method_3_code
def yX5_read : MethodName := ⟨RX5, "read", "()Z"⟩
abbrev cX5_fail : ByteArray := prog_7_method_4_code
def yX5_fail : MethodName := ⟨RX5, "fail", "(II)Z"⟩
abbrev cX5_skipSpaces : ByteArray := prog_7_method_5_code
def yX5_skipSpaces : MethodName := ⟨RX5, "skipSpaces", "()V"⟩
abbrev cX5_isAtEnd : ByteArray := prog_7_method_6_code
def yX5_isAtEnd : MethodName := ⟨RX5, "isAtEnd", "()Z"⟩
abbrev cX5_isAtDigit : ByteArray := prog_7_method_7_code
def yX5_isAtDigit : MethodName := ⟨RX5, "isAtDigit", "()Z"⟩
abbrev cX5_readSemicolon : ByteArray := prog_7_method_8_code
def yX5_readSemicolon : MethodName := ⟨RX5, "readSemicolon", "()Z"⟩
abbrev cX5_passWord : ByteArray := prog_7_method_9_code
def yX5_passWord : MethodName := ⟨RX5, "passWord", "()I"⟩
abbrev cX5_isWord : ByteArray := prog_7_method_10_code
def yX5_isWord : MethodName := ⟨RX5, "isWord", "(ILjava/lang/String;)Z"⟩
abbrev cX5_readNumber : ByteArray := prog_7_method_11_code
def yX5_readNumber : MethodName := ⟨RX5, "readNumber", "(II)Z"⟩
abbrev cX5_readFlash : ByteArray := prog_7_method_12_code
def yX5_readFlash : MethodName := ⟨RX5, "readFlash", "()Z"⟩
abbrev cX5_readStatement : ByteArray := prog_7_method_13_code
def yX5_readStatement : MethodName := ⟨RX5, "readStatement", "()Z"⟩
abbrev cX5_readOnce : ByteArray := prog_7_method_14_code
def yX5_readOnce : MethodName := ⟨RX5, "readOnce", "(IIII)Z"⟩
abbrev cX5_claim : ByteArray := prog_7_method_15_code
def yX5_claim : MethodName := ⟨RX5, "claim", "(II)Z"⟩
abbrev cX5_readImage : ByteArray := prog_7_method_16_code
def yX5_readImage : MethodName := ⟨RX5, "readImage", "()Z"⟩
def RX6 : String := "TwinBoot"
def TX6 : u_T := fun k => match k with
  | 0 => ("TwinBoot", "text", "LTwinBoot$Text;", true)
  | 1 => ("TwinBoot", "device", "LTwinBoot$Device;", true)
  | 2 => ("TwinBoot", "trial", "LTwinBoot$Device;", true)
  | 3 => ("TwinBoot", "afterCut", "LTwinBoot$Device;", true)
  | 4 => ("TwinBoot", "snapshots", "[LTwinBoot$Device;", true)
  | _ => ("TwinBoot", "saved", "[Z", true)
def tyX6 : Nat → FieldType := fun k => match k with
  | 0 => .object "TwinBoot$Text"
  | 1 => .object "TwinBoot$Device"
  | 2 => .object "TwinBoot$Device"
  | 3 => .object "TwinBoot$Device"
  | 4 => .array (.object "TwinBoot$Device")
  | _ => .array .boolean
abbrev wsX60 : List Cond := u_ws RX6 TX6 6
theorem nmX6 : ∀ a, a < 6 → ∀ b, b < 6 → a ≠ b → (TX6 a).2.1 ≠ (TX6 b).2.1 := by decide +kernel
theorem tyX6_ok : ∀ k, k < 6 → parseFieldDescriptor (TX6 k).2.2.1 = some (tyX6 k) := by decide +kernel
abbrev cX6_init : ByteArray := prog_1_method_1_code
def yX6_init : MethodName := ⟨RX6, "<init>", "()V"⟩
abbrev cX6_append : ByteArray := prog_1_method_2_code
def yX6_append : MethodName := ⟨RX6, "append", "(J)I"⟩
abbrev cX6_load : ByteArray := prog_1_method_3_code
def yX6_load : MethodName := ⟨RX6, "load", "()I"⟩
abbrev cX6_stage : ByteArray := prog_1_method_5_code
def yX6_stage : MethodName := ⟨RX6, "stage", "(I)I"⟩
abbrev cX6_setting : ByteArray := prog_1_method_8_code
def yX6_setting : MethodName := ⟨RX6, "setting", "(I)I"⟩
abbrev cX6_setPower : ByteArray := prog_1_method_9_code
def yX6_setPower : MethodName := ⟨RX6, "setPower", "(I)I"⟩
abbrev cX6_power : ByteArray := prog_1_method_10_code
def yX6_power : MethodName := ⟨RX6, "power", "()I"⟩
abbrev cX6_boot : ByteArray := prog_1_method_11_code
def yX6_boot : MethodName := ⟨RX6, "boot", "()I"⟩
abbrev cX6_running : ByteArray := prog_1_method_12_code
def yX6_running : MethodName := ⟨RX6, "running", "()I"⟩
abbrev cX6_state : ByteArray := prog_1_method_13_code
def yX6_state : MethodName := ⟨RX6, "state", "()I"⟩
abbrev cX6_off : ByteArray := prog_1_method_14_code
def yX6_off : MethodName := ⟨RX6, "off", "()Z"⟩
abbrev cX6_update : ByteArray := prog_1_method_15_code
def yX6_update : MethodName := ⟨RX6, "update", "(I)I"⟩
abbrev cX6_thriftyUpdate : ByteArray := prog_1_method_16_code
def yX6_thriftyUpdate : MethodName := ⟨RX6, "thriftyUpdate", "(I)I"⟩
abbrev cX6_mirror : ByteArray := prog_1_method_17_code
def yX6_mirror : MethodName := ⟨RX6, "mirror", "()I"⟩
abbrev cX6_moveJournal : ByteArray := prog_1_method_18_code
def yX6_moveJournal : MethodName := ⟨RX6, "moveJournal", "()I"⟩
abbrev cX6_confirm : ByteArray := prog_1_method_19_code
def yX6_confirm : MethodName := ⟨RX6, "confirm", "()I"⟩
abbrev cX6_recover : ByteArray := prog_1_method_20_code
def yX6_recover : MethodName := ⟨RX6, "recover", "(II)I"⟩
abbrev cX6_word : ByteArray := prog_1_method_21_code
def yX6_word : MethodName := ⟨RX6, "word", "(II)I"⟩
abbrev cX6_journalWord : ByteArray := prog_1_method_22_code
def yX6_journalWord : MethodName := ⟨RX6, "journalWord", "(II)I"⟩
abbrev cX6_wear : ByteArray := prog_1_method_23_code
def yX6_wear : MethodName := ⟨RX6, "wear", "(II)I"⟩
abbrev cX6_mostWorn : ByteArray := prog_1_method_24_code
def yX6_mostWorn : MethodName := ⟨RX6, "mostWorn", "()I"⟩
abbrev cX6_operations : ByteArray := prog_1_method_26_code
def yX6_operations : MethodName := ⟨RX6, "operations", "()I"⟩
abbrev cX6_isWhole : ByteArray := prog_1_method_27_code
def yX6_isWhole : MethodName := ⟨RX6, "isWhole", "(I)Z"⟩
abbrev cX6_isBootable : ByteArray := prog_1_method_28_code
def yX6_isBootable : MethodName := ⟨RX6, "isBootable", "(I)Z"⟩
abbrev cX6_checksum : ByteArray := prog_1_method_29_code
def yX6_checksum : MethodName := ⟨RX6, "checksum", "(I)I"⟩
abbrev cX6_differentWords : ByteArray := prog_1_method_31_code
def yX6_differentWords : MethodName := ⟨RX6, "differentWords", "(I)I"⟩
abbrev cX6_damage : ByteArray := prog_1_method_34_code
def yX6_damage : MethodName := ⟨RX6, "damage", "(III)I"⟩
abbrev cX6_damageJournal : ByteArray := prog_1_method_35_code
def yX6_damageJournal : MethodName := ⟨RX6, "damageJournal", "(III)I"⟩
abbrev cX6_activePage : ByteArray := prog_1_method_36_code
def yX6_activePage : MethodName := ⟨RX6, "activePage", "()I"⟩
abbrev cX6_generation : ByteArray := prog_1_method_37_code
def yX6_generation : MethodName := ⟨RX6, "generation", "()I"⟩
abbrev cX6_freeWords : ByteArray := prog_1_method_38_code
def yX6_freeWords : MethodName := ⟨RX6, "freeWords", "()I"⟩
abbrev cX6_recordCount : ByteArray := prog_1_method_39_code
def yX6_recordCount : MethodName := ⟨RX6, "recordCount", "()I"⟩
abbrev cX6_record : ByteArray := prog_1_method_40_code
def yX6_record : MethodName := ⟨RX6, "record", "(II)I"⟩
abbrev cX6_spoiled : ByteArray := prog_1_method_41_code
def yX6_spoiled : MethodName := ⟨RX6, "spoiled", "()I"⟩
abbrev cX6_told : ByteArray := prog_1_method_42_code
def yX6_told : MethodName := ⟨RX6, "told", "(I)I"⟩
abbrev cX6_bootWould : ByteArray := prog_1_method_43_code
def yX6_bootWould : MethodName := ⟨RX6, "bootWould", "()I"⟩
abbrev cX6_bootOperations : ByteArray := prog_1_method_44_code
def yX6_bootOperations : MethodName := ⟨RX6, "bootOperations", "()I"⟩
abbrev cX6_updateOperations : ByteArray := prog_1_method_45_code
def yX6_updateOperations : MethodName := ⟨RX6, "updateOperations", "(I)I"⟩
abbrev cX6_slotAfterCut : ByteArray := prog_1_method_46_code
def yX6_slotAfterCut : MethodName := ⟨RX6, "slotAfterCut", "(II)I"⟩
abbrev cX6_firstUnsafeCut : ByteArray := prog_1_method_47_code
def yX6_firstUnsafeCut : MethodName := ⟨RX6, "firstUnsafeCut", "(I)I"⟩
abbrev cX6_cutsToNew : ByteArray := prog_1_method_48_code
def yX6_cutsToNew : MethodName := ⟨RX6, "cutsToNew", "(I)I"⟩
abbrev cX6_longestOldRun : ByteArray := prog_1_method_49_code
def yX6_longestOldRun : MethodName := ⟨RX6, "longestOldRun", "(I)I"⟩
abbrev cX6_thriftyOperations : ByteArray := prog_1_method_51_code
def yX6_thriftyOperations : MethodName := ⟨RX6, "thriftyOperations", "(I)I"⟩
abbrev cX6_thriftyPages : ByteArray := prog_1_method_52_code
def yX6_thriftyPages : MethodName := ⟨RX6, "thriftyPages", "()I"⟩
abbrev cX6_firstUnsafeThriftyCut : ByteArray := prog_1_method_53_code
def yX6_firstUnsafeThriftyCut : MethodName := ⟨RX6, "firstUnsafeThriftyCut", "(I)I"⟩
abbrev cX6_bootsToRollback : ByteArray := prog_1_method_57_code
def yX6_bootsToRollback : MethodName := ⟨RX6, "bootsToRollback", "()I"⟩
abbrev cX6_firstBootCut : ByteArray := prog_1_method_58_code
def yX6_firstBootCut : MethodName := ⟨RX6, "firstBootCut", "()I"⟩
abbrev cX6_recordsLeft : ByteArray := prog_1_method_59_code
def yX6_recordsLeft : MethodName := ⟨RX6, "recordsLeft", "()I"⟩
abbrev cX6_logSize : ByteArray := prog_1_method_60_code
def yX6_logSize : MethodName := ⟨RX6, "logSize", "()I"⟩
abbrev cX6_eventCount : ByteArray := prog_1_method_62_code
def yX6_eventCount : MethodName := ⟨RX6, "eventCount", "(I)I"⟩
abbrev cX6_saveSnapshot : ByteArray := prog_1_method_63_code
def yX6_saveSnapshot : MethodName := ⟨RX6, "saveSnapshot", "(I)I"⟩
abbrev cX6_restoreSnapshot : ByteArray := prog_1_method_64_code
def yX6_restoreSnapshot : MethodName := ⟨RX6, "restoreSnapshot", "(I)I"⟩
abbrev cX6_requireRange : ByteArray := prog_1_method_65_code
def yX6_requireRange : MethodName := ⟨RX6, "requireRange", "(III)V"⟩
abbrev cX6_requireSlot : ByteArray := prog_1_method_66_code
def yX6_requireSlot : MethodName := ⟨RX6, "requireSlot", "(I)V"⟩
abbrev cX6_requireVersion : ByteArray := prog_1_method_67_code
def yX6_requireVersion : MethodName := ⟨RX6, "requireVersion", "(I)V"⟩
abbrev cX6_requireCut : ByteArray := prog_1_method_68_code
def yX6_requireCut : MethodName := ⟨RX6, "requireCut", "(I)V"⟩
abbrev cX6_requireIndex : ByteArray := prog_1_method_69_code
def yX6_requireIndex : MethodName := ⟨RX6, "requireIndex", "(II)V"⟩
abbrev cX6_standsBefore : ByteArray := prog_1_method_70_code
def yX6_standsBefore : MethodName := ⟨RX6, "standsBefore", "([II)Z"⟩
abbrev cX6_readLedger : ByteArray := prog_1_method_71_code
def yX6_readLedger : MethodName := ⟨RX6, "readLedger", "()LTwinBoot$Ledger;"⟩
abbrev cX6_prepareTrial : ByteArray := prog_1_method_72_code
def yX6_prepareTrial : MethodName := ⟨RX6, "prepareTrial", "(I)V"⟩
abbrev cX6_bootAfterCut : ByteArray := prog_1_method_73_code
def yX6_bootAfterCut : MethodName := ⟨RX6, "bootAfterCut", "(IIZ)I"⟩
abbrev cX6_unsafeCut : ByteArray := prog_1_method_75_code
def yX6_unsafeCut : MethodName := ⟨RX6, "unsafeCut", "(IZ)I"⟩
def RX7 : String := "TwinBootModel"
def TX7 : u_T := fun k => match k with
  | _ => ("", "", "", false)
def tyX7 : Nat → FieldType := fun k => match k with
  | _ => .int
abbrev wsX70 : List Cond := u_ws RX7 TX7 0
theorem nmX7 : ∀ a, a < 0 → ∀ b, b < 0 → a ≠ b → (TX7 a).2.1 ≠ (TX7 b).2.1 := by decide +kernel
theorem tyX7_ok : ∀ k, k < 0 → parseFieldDescriptor (TX7 k).2.2.1 = some (tyX7 k) := by decide +kernel
def RJx145de : String := "java/io/Serializable"
def TJx145de : u_T := fun k => match k with
  | _ => ("", "", "", false)
def tyJx145de : Nat → FieldType := fun k => match k with
  | _ => .int
abbrev wsJx145de0 : List Cond := u_ws RJx145de TJx145de 0
theorem nmJx145de : ∀ a, a < 0 → ∀ b, b < 0 → a ≠ b → (TJx145de a).2.1 ≠ (TJx145de b).2.1 := by decide +kernel
theorem tyJx145de_ok : ∀ k, k < 0 → parseFieldDescriptor (TJx145de k).2.2.1 = some (tyJx145de k) := by decide +kernel
def RJ5 : String := "java/lang/AbstractStringBuilder"
def TJ5 : u_T := fun k => match k with
  | _ => ("", "", "", false)
def tyJ5 : Nat → FieldType := fun k => match k with
  | _ => .int
abbrev wsJ50 : List Cond := u_ws RJ5 TJ5 0
theorem nmJ5 : ∀ a, a < 0 → ∀ b, b < 0 → a ≠ b → (TJ5 a).2.1 ≠ (TJ5 b).2.1 := by decide +kernel
theorem tyJ5_ok : ∀ k, k < 0 → parseFieldDescriptor (TJ5 k).2.2.1 = some (tyJ5 k) := by decide +kernel
abbrev cJ5_init_d00df : ByteArray := prog_10_method_2_code
def yJ5_init_d00df : MethodName := ⟨RJ5, "<init>", "(I)V"⟩
abbrev cJ5_length_8abf5 : ByteArray := prog_10_method_6_code
def yJ5_length_8abf5 : MethodName := ⟨RJ5, "length", "()I"⟩
abbrev cJ5_ensureCapacityInternal_d00df : ByteArray := prog_10_method_9_code
def yJ5_ensureCapacityInternal_d00df : MethodName := ⟨RJ5, "ensureCapacityInternal", "(I)V"⟩
abbrev cJ5_newCapacity_0f7a4 : ByteArray := prog_10_method_10_code
def yJ5_newCapacity_0f7a4 : MethodName := ⟨RJ5, "newCapacity", "(I)I"⟩
abbrev cJ5_inflate_da8c8 : ByteArray := prog_10_method_11_code
def yJ5_inflate_da8c8 : MethodName := ⟨RJ5, "inflate", "()V"⟩
abbrev cJ5_append_cf1ce : ByteArray := prog_10_method_22_code
def yJ5_append_cf1ce : MethodName := ⟨RJ5, "append", "(Ljava/lang/String;)Ljava/lang/AbstractStringBuilder;"⟩
abbrev cJ5_appendNull_278bc : ByteArray := prog_10_method_26_code
def yJ5_appendNull_278bc : MethodName := ⟨RJ5, "appendNull", "()Ljava/lang/AbstractStringBuilder;"⟩
abbrev cJ5_append_c97b9 : ByteArray := prog_10_method_32_code
def yJ5_append_c97b9 : MethodName := ⟨RJ5, "append", "(I)Ljava/lang/AbstractStringBuilder;"⟩
abbrev cJ5_getValue_6d5f1 : ByteArray := prog_10_method_64_code
def yJ5_getValue_6d5f1 : MethodName := ⟨RJ5, "getValue", "()[B"⟩
abbrev cJ5_isLatin1_aae02 : ByteArray := prog_10_method_68_code
def yJ5_isLatin1_aae02 : MethodName := ⟨RJ5, "isLatin1", "()Z"⟩
abbrev cJ5_inflateIfNeededFor_a7421 : ByteArray := prog_10_method_71_code
def yJ5_inflateIfNeededFor_a7421 : MethodName := ⟨RJ5, "inflateIfNeededFor", "(Ljava/lang/String;)V"⟩
abbrev cJ5_putStringAt_47b60 : ByteArray := prog_10_method_73_code
def yJ5_putStringAt_47b60 : MethodName := ⟨RJ5, "putStringAt", "(ILjava/lang/String;)V"⟩
def RJx2cfe8 : String := "java/lang/Appendable"
def TJx2cfe8 : u_T := fun k => match k with
  | _ => ("", "", "", false)
def tyJx2cfe8 : Nat → FieldType := fun k => match k with
  | _ => .int
abbrev wsJx2cfe80 : List Cond := u_ws RJx2cfe8 TJx2cfe8 0
theorem nmJx2cfe8 : ∀ a, a < 0 → ∀ b, b < 0 → a ≠ b → (TJx2cfe8 a).2.1 ≠ (TJx2cfe8 b).2.1 := by decide +kernel
theorem tyJx2cfe8_ok : ∀ k, k < 0 → parseFieldDescriptor (TJx2cfe8 k).2.2.1 = some (tyJx2cfe8 k) := by decide +kernel
def RJx9f9b0 : String := "java/lang/CharSequence"
def TJx9f9b0 : u_T := fun k => match k with
  | _ => ("", "", "", false)
def tyJx9f9b0 : Nat → FieldType := fun k => match k with
  | _ => .int
abbrev wsJx9f9b00 : List Cond := u_ws RJx9f9b0 TJx9f9b0 0
theorem nmJx9f9b0 : ∀ a, a < 0 → ∀ b, b < 0 → a ≠ b → (TJx9f9b0 a).2.1 ≠ (TJx9f9b0 b).2.1 := by decide +kernel
theorem tyJx9f9b0_ok : ∀ k, k < 0 → parseFieldDescriptor (TJx9f9b0 k).2.2.1 = some (tyJx9f9b0 k) := by decide +kernel
def RJx8e188 : String := "java/lang/Cloneable"
def TJx8e188 : u_T := fun k => match k with
  | _ => ("", "", "", false)
def tyJx8e188 : Nat → FieldType := fun k => match k with
  | _ => .int
abbrev wsJx8e1880 : List Cond := u_ws RJx8e188 TJx8e188 0
theorem nmJx8e188 : ∀ a, a < 0 → ∀ b, b < 0 → a ≠ b → (TJx8e188 a).2.1 ≠ (TJx8e188 b).2.1 := by decide +kernel
theorem tyJx8e188_ok : ∀ k, k < 0 → parseFieldDescriptor (TJx8e188 k).2.2.1 = some (tyJx8e188 k) := by decide +kernel
def RJxb160c : String := "java/lang/Comparable"
def TJxb160c : u_T := fun k => match k with
  | _ => ("", "", "", false)
def tyJxb160c : Nat → FieldType := fun k => match k with
  | _ => .int
abbrev wsJxb160c0 : List Cond := u_ws RJxb160c TJxb160c 0
theorem nmJxb160c : ∀ a, a < 0 → ∀ b, b < 0 → a ≠ b → (TJxb160c a).2.1 ≠ (TJxb160c b).2.1 := by decide +kernel
theorem tyJxb160c_ok : ∀ k, k < 0 → parseFieldDescriptor (TJxb160c k).2.2.1 = some (tyJxb160c k) := by decide +kernel
def RJ6 : String := "java/lang/Integer"
def TJ6 : u_T := fun k => match k with
  | _ => ("", "", "", false)
def tyJ6 : Nat → FieldType := fun k => match k with
  | _ => .int
abbrev wsJ60 : List Cond := u_ws RJ6 TJ6 0
theorem nmJ6 : ∀ a, a < 0 → ∀ b, b < 0 → a ≠ b → (TJ6 a).2.1 ≠ (TJ6 b).2.1 := by decide +kernel
theorem tyJ6_ok : ∀ k, k < 0 → parseFieldDescriptor (TJ6 k).2.2.1 = some (tyJ6 k) := by decide +kernel
abbrev cJ6_getChars_ba4f3 : ByteArray := prog_15_method_12_code
def yJ6_getChars_ba4f3 : MethodName := ⟨RJ6, "getChars", "(II[B)I"⟩
abbrev cJ6_stringSize_0f7a4 : ByteArray := prog_15_method_13_code
def yJ6_stringSize_0f7a4 : MethodName := ⟨RJ6, "stringSize", "(I)I"⟩
abbrev cJ6_bitCount_0f7a4 : ByteArray := prog_15_method_49_code
def yJ6_bitCount_0f7a4 : MethodName := ⟨RJ6, "bitCount", "(I)I"⟩
def RJ9 : String := "java/lang/Math"
def TJ9 : u_T := fun k => match k with
  | _ => ("", "", "", false)
def tyJ9 : Nat → FieldType := fun k => match k with
  | _ => .int
abbrev wsJ90 : List Cond := u_ws RJ9 TJ9 0
theorem nmJ9 : ∀ a, a < 0 → ∀ b, b < 0 → a ≠ b → (TJ9 a).2.1 ≠ (TJ9 b).2.1 := by decide +kernel
theorem tyJ9_ok : ∀ k, k < 0 → parseFieldDescriptor (TJ9 k).2.2.1 = some (tyJ9 k) := by decide +kernel
abbrev cJ9_abs_0f7a4 : ByteArray := prog_16_method_59_code
def yJ9_abs_0f7a4 : MethodName := ⟨RJ9, "abs", "(I)I"⟩
abbrev cJ9_max_7cf53 : ByteArray := prog_16_method_65_code
def yJ9_max_7cf53 : MethodName := ⟨RJ9, "max", "(II)I"⟩
abbrev cJ9_min_7cf53 : ByteArray := prog_16_method_69_code
def yJ9_min_7cf53 : MethodName := ⟨RJ9, "min", "(II)I"⟩
def RJxd2413 : String := "java/lang/Number"
def TJxd2413 : u_T := fun k => match k with
  | _ => ("", "", "", false)
def tyJxd2413 : Nat → FieldType := fun k => match k with
  | _ => .int
abbrev wsJxd24130 : List Cond := u_ws RJxd2413 TJxd2413 0
theorem nmJxd2413 : ∀ a, a < 0 → ∀ b, b < 0 → a ≠ b → (TJxd2413 a).2.1 ≠ (TJxd2413 b).2.1 := by decide +kernel
theorem tyJxd2413_ok : ∀ k, k < 0 → parseFieldDescriptor (TJxd2413 k).2.2.1 = some (tyJxd2413 k) := by decide +kernel
def RJ0 : String := "java/lang/String"
def TJ0 : u_T := fun k => match k with
  | 0 => ("java/lang/String", "value", "[B", true)
  | 1 => ("java/lang/String", "coder", "B", true)
  | 2 => ("java/lang/String", "hash", "I", false)
  | _ => ("java/lang/String", "hashIsZero", "Z", false)
def tyJ0 : Nat → FieldType := fun k => match k with
  | 0 => .array .byte
  | 1 => .byte
  | 2 => .int
  | _ => .boolean
abbrev wsJ00 : List Cond := u_ws RJ0 TJ0 4
theorem nmJ0 : ∀ a, a < 4 → ∀ b, b < 4 → a ≠ b → (TJ0 a).2.1 ≠ (TJ0 b).2.1 := by decide +kernel
theorem tyJ0_ok : ∀ k, k < 4 → parseFieldDescriptor (TJ0 k).2.2.1 = some (tyJ0 k) := by decide +kernel
abbrev cJ0_init_81219 : ByteArray := prog_19_method_53_code
def yJ0_init_81219 : MethodName := ⟨RJ0, "<init>", "(Ljava/lang/StringBuilder;)V"⟩
abbrev cJ0_length_8abf5 : ByteArray := prog_19_method_54_code
def yJ0_length_8abf5 : MethodName := ⟨RJ0, "length", "()I"⟩
abbrev cJ0_charAt_5068e : ByteArray := prog_19_method_56_code
def yJ0_charAt_5068e : MethodName := ⟨RJ0, "charAt", "(I)C"⟩
abbrev cJ0_getBytes_840e7 : ByteArray := prog_19_method_147_code
def yJ0_getBytes_840e7 : MethodName := ⟨RJ0, "getBytes", "([BIB)V"⟩
abbrev cJ0_init_db425 : ByteArray := prog_19_method_150_code
def yJ0_init_db425 : MethodName := ⟨RJ0, "<init>", "(Ljava/lang/AbstractStringBuilder;Ljava/lang/Void;)V"⟩
abbrev cJ0_coder_7d493 : ByteArray := prog_19_method_152_code
def yJ0_coder_7d493 : MethodName := ⟨RJ0, "coder", "()B"⟩
abbrev cJ0_isLatin1_aae02 : ByteArray := prog_19_method_154_code
def yJ0_isLatin1_aae02 : MethodName := ⟨RJ0, "isLatin1", "()Z"⟩
abbrev cJ0_checkIndex_df160 : ByteArray := prog_19_method_155_code
def yJ0_checkIndex_df160 : MethodName := ⟨RJ0, "checkIndex", "(II)V"⟩
abbrev cJ0_checkBoundsOffCount_cabcc : ByteArray := prog_19_method_157_code
def yJ0_checkBoundsOffCount_cabcc : MethodName := ⟨RJ0, "checkBoundsOffCount", "(III)I"⟩
abbrev cJ0_checkBoundsBeginEnd_23922 : ByteArray := prog_19_method_158_code
def yJ0_checkBoundsBeginEnd_23922 : MethodName := ⟨RJ0, "checkBoundsBeginEnd", "(III)V"⟩
def RJ4 : String := "java/lang/StringBuilder"
def TJ4 : u_T := fun k => match k with
  | 0 => ("java/lang/AbstractStringBuilder", "value", "[B", false)
  | 1 => ("java/lang/AbstractStringBuilder", "coder", "B", false)
  | 2 => ("java/lang/AbstractStringBuilder", "maybeLatin1", "Z", false)
  | _ => ("java/lang/AbstractStringBuilder", "count", "I", false)
def tyJ4 : Nat → FieldType := fun k => match k with
  | 0 => .array .byte
  | 1 => .byte
  | 2 => .boolean
  | _ => .int
abbrev wsJ40 : List Cond := u_ws RJ4 TJ4 4
theorem nmJ4 : ∀ a, a < 4 → ∀ b, b < 4 → a ≠ b → (TJ4 a).2.1 ≠ (TJ4 b).2.1 := by decide +kernel
theorem tyJ4_ok : ∀ k, k < 4 → parseFieldDescriptor (TJ4 k).2.2.1 = some (tyJ4 k) := by decide +kernel
abbrev cJ4_init_da8c8 : ByteArray := prog_20_method_1_code
def yJ4_init_da8c8 : MethodName := ⟨RJ4, "<init>", "()V"⟩
abbrev cJ4_append_15ec4 : ByteArray := prog_20_method_7_code
def yJ4_append_15ec4 : MethodName := ⟨RJ4, "append", "(Ljava/lang/String;)Ljava/lang/StringBuilder;"⟩
abbrev cJ4_append_bf812 : ByteArray := prog_20_method_15_code
def yJ4_append_bf812 : MethodName := ⟨RJ4, "append", "(I)Ljava/lang/StringBuilder;"⟩
abbrev cJ4_toString_0e30d : ByteArray := prog_20_method_42_code
def yJ4_toString_0e30d : MethodName := ⟨RJ4, "toString", "()Ljava/lang/String;"⟩
abbrev cJ4_length_8abf5 : ByteArray := prog_20_method_93_code
def yJ4_length_8abf5 : MethodName := ⟨RJ4, "length", "()I"⟩
def RJ1 : String := "java/lang/StringLatin1"
def TJ1 : u_T := fun k => match k with
  | _ => ("", "", "", false)
def tyJ1 : Nat → FieldType := fun k => match k with
  | _ => .int
abbrev wsJ10 : List Cond := u_ws RJ1 TJ1 0
theorem nmJ1 : ∀ a, a < 0 → ∀ b, b < 0 → a ≠ b → (TJ1 a).2.1 ≠ (TJ1 b).2.1 := by decide +kernel
theorem tyJ1_ok : ∀ k, k < 0 → parseFieldDescriptor (TJ1 k).2.2.1 = some (tyJ1 k) := by decide +kernel
abbrev cJ1_charAt_3b067 : ByteArray := prog_21_method_2_code
def yJ1_charAt_3b067 : MethodName := ⟨RJ1, "charAt", "([BI)C"⟩
abbrev cJ1_inflate_0e8fd : ByteArray := prog_21_method_50_code
def yJ1_inflate_0e8fd : MethodName := ⟨RJ1, "inflate", "([BI[BII)V"⟩
def RJ2 : String := "java/lang/StringUTF16"
def TJ2 : u_T := fun k => match k with
  | _ => ("", "", "", false)
def tyJ2 : Nat → FieldType := fun k => match k with
  | _ => .int
abbrev wsJ20 : List Cond := u_ws RJ2 TJ2 0
theorem nmJ2 : ∀ a, a < 0 → ∀ b, b < 0 → a ≠ b → (TJ2 a).2.1 ≠ (TJ2 b).2.1 := by decide +kernel
theorem tyJ2_ok : ∀ k, k < 0 → parseFieldDescriptor (TJ2 k).2.2.1 = some (tyJ2 k) := by decide +kernel
abbrev cJ2_newBytesFor_77867 : ByteArray := prog_22_method_2_code
def yJ2_newBytesFor_77867 : MethodName := ⟨RJ2, "newBytesFor", "(I)[B"⟩
abbrev cJ2_newBytesLength_0f7a4 : ByteArray := prog_22_method_3_code
def yJ2_newBytesLength_0f7a4 : MethodName := ⟨RJ2, "newBytesLength", "(I)I"⟩
abbrev cJ2_putChar_b72d1 : ByteArray := prog_22_method_4_code
def yJ2_putChar_b72d1 : MethodName := ⟨RJ2, "putChar", "([BII)V"⟩
abbrev cJ2_getChar_3b067 : ByteArray := prog_22_method_5_code
def yJ2_getChar_3b067 : MethodName := ⟨RJ2, "getChar", "([BI)C"⟩
abbrev cJ2_length_9d52b : ByteArray := prog_22_method_6_code
def yJ2_length_9d52b : MethodName := ⟨RJ2, "length", "([B)I"⟩
abbrev cJ2_coderFromArrayLen_85cad : ByteArray := prog_22_method_15_code
def yJ2_coderFromArrayLen_85cad : MethodName := ⟨RJ2, "coderFromArrayLen", "([BI)B"⟩
abbrev cJ2_compress_39247 : ByteArray := prog_22_method_17_code
def yJ2_compress_39247 : MethodName := ⟨RJ2, "compress", "([BII)[B"⟩
abbrev cJ2_compress_5af95 : ByteArray := prog_22_method_22_code
def yJ2_compress_5af95 : MethodName := ⟨RJ2, "compress", "([BI[BII)I"⟩
abbrev cJ2_getChars_46870 : ByteArray := prog_22_method_77_code
def yJ2_getChars_46870 : MethodName := ⟨RJ2, "getChars", "(III[B)I"⟩
abbrev cJ2_putCharsAt_cd4e5 : ByteArray := prog_22_method_81_code
def yJ2_putCharsAt_cd4e5 : MethodName := ⟨RJ2, "putCharsAt", "([BICCCC)I"⟩
abbrev cJ2_charAt_3b067 : ByteArray := prog_22_method_83_code
def yJ2_charAt_3b067 : MethodName := ⟨RJ2, "charAt", "([BI)C"⟩
abbrev cJ2_inflate_0e8fd : ByteArray := prog_22_method_86_code
def yJ2_inflate_0e8fd : MethodName := ⟨RJ2, "inflate", "([BI[BII)V"⟩
abbrev cJ2_getChars_ba4f3 : ByteArray := prog_22_method_89_code
def yJ2_getChars_ba4f3 : MethodName := ⟨RJ2, "getChars", "(II[B)I"⟩
abbrev cJ2_checkIndex_2214a : ByteArray := prog_22_method_91_code
def yJ2_checkIndex_2214a : MethodName := ⟨RJ2, "checkIndex", "(I[B)V"⟩
abbrev cJ2_checkBoundsBeginEnd_d044e : ByteArray := prog_22_method_93_code
def yJ2_checkBoundsBeginEnd_d044e : MethodName := ⟨RJ2, "checkBoundsBeginEnd", "(II[B)V"⟩
abbrev cJ2_checkBoundsOffCount_d044e : ByteArray := prog_22_method_94_code
def yJ2_checkBoundsOffCount_d044e : MethodName := ⟨RJ2, "checkBoundsOffCount", "(II[B)V"⟩
def RJ10 : String := "java/lang/System"
def TJ10 : u_T := fun k => match k with
  | _ => ("", "", "", false)
def tyJ10 : Nat → FieldType := fun k => match k with
  | _ => .int
abbrev wsJ100 : List Cond := u_ws RJ10 TJ10 0
theorem nmJ10 : ∀ a, a < 0 → ∀ b, b < 0 → a ≠ b → (TJ10 a).2.1 ≠ (TJ10 b).2.1 := by decide +kernel
theorem tyJ10_ok : ∀ k, k < 0 → parseFieldDescriptor (TJ10 k).2.2.1 = some (tyJ10 k) := by decide +kernel
def RJxfd54e : String := "java/lang/constant/Constable"
def TJxfd54e : u_T := fun k => match k with
  | _ => ("", "", "", false)
def tyJxfd54e : Nat → FieldType := fun k => match k with
  | _ => .int
abbrev wsJxfd54e0 : List Cond := u_ws RJxfd54e TJxfd54e 0
theorem nmJxfd54e : ∀ a, a < 0 → ∀ b, b < 0 → a ≠ b → (TJxfd54e a).2.1 ≠ (TJxfd54e b).2.1 := by decide +kernel
theorem tyJxfd54e_ok : ∀ k, k < 0 → parseFieldDescriptor (TJxfd54e k).2.2.1 = some (tyJxfd54e k) := by decide +kernel
def RJx3cf43 : String := "java/lang/constant/ConstantDesc"
def TJx3cf43 : u_T := fun k => match k with
  | _ => ("", "", "", false)
def tyJx3cf43 : Nat → FieldType := fun k => match k with
  | _ => .int
abbrev wsJx3cf430 : List Cond := u_ws RJx3cf43 TJx3cf43 0
theorem nmJx3cf43 : ∀ a, a < 0 → ∀ b, b < 0 → a ≠ b → (TJx3cf43 a).2.1 ≠ (TJx3cf43 b).2.1 := by decide +kernel
theorem tyJx3cf43_ok : ∀ k, k < 0 → parseFieldDescriptor (TJx3cf43 k).2.2.1 = some (tyJx3cf43 k) := by decide +kernel
def RJ7 : String := "java/util/Arrays"
def TJ7 : u_T := fun k => match k with
  | _ => ("", "", "", false)
def tyJ7 : Nat → FieldType := fun k => match k with
  | _ => .int
abbrev wsJ70 : List Cond := u_ws RJ7 TJ7 0
theorem nmJ7 : ∀ a, a < 0 → ∀ b, b < 0 → a ≠ b → (TJ7 a).2.1 ≠ (TJ7 b).2.1 := by decide +kernel
theorem tyJ7_ok : ∀ k, k < 0 → parseFieldDescriptor (TJ7 k).2.2.1 = some (tyJ7 k) := by decide +kernel
abbrev cJ7_rangeCheck_23922 : ByteArray := prog_25_method_30_code
def yJ7_rangeCheck_23922 : MethodName := ⟨RJ7, "rangeCheck", "(III)V"⟩
abbrev cJ7_fill_53178 : ByteArray := prog_25_method_103_code
def yJ7_fill_53178 : MethodName := ⟨RJ7, "fill", "([II)V"⟩
abbrev cJ7_fill_fda19 : ByteArray := prog_25_method_104_code
def yJ7_fill_fda19 : MethodName := ⟨RJ7, "fill", "([IIII)V"⟩
abbrev cJ7_copyOf_9075b : ByteArray := prog_25_method_121_code
def yJ7_copyOf_9075b : MethodName := ⟨RJ7, "copyOf", "([BI)[B"⟩
abbrev cJ7_checkLength_df160 : ByteArray := prog_25_method_131_code
def yJ7_checkLength_df160 : MethodName := ⟨RJ7, "checkLength", "(II)V"⟩
abbrev cJ7_copyOfRange_39247 : ByteArray := prog_25_method_132_code
def yJ7_copyOfRange_39247 : MethodName := ⟨RJ7, "copyOfRange", "([BII)[B"⟩
abbrev cJ7_copyOfRangeByte_39247 : ByteArray := prog_25_method_133_code
def yJ7_copyOfRangeByte_39247 : MethodName := ⟨RJ7, "copyOfRangeByte", "([BII)[B"⟩
def RJ8 : String := "jdk/internal/util/ArraysSupport"
def TJ8 : u_T := fun k => match k with
  | _ => ("", "", "", false)
def tyJ8 : Nat → FieldType := fun k => match k with
  | _ => .int
abbrev wsJ80 : List Cond := u_ws RJ8 TJ8 0
theorem nmJ8 : ∀ a, a < 0 → ∀ b, b < 0 → a ≠ b → (TJ8 a).2.1 ≠ (TJ8 b).2.1 := by decide +kernel
theorem tyJ8_ok : ∀ k, k < 0 → parseFieldDescriptor (TJ8 k).2.2.1 = some (tyJ8 k) := by decide +kernel
abbrev cJ8_newLength_cabcc : ByteArray := prog_26_method_27_code
def yJ8_newLength_cabcc : MethodName := ⟨RJ8, "newLength", "(III)I"⟩
abbrev cJ8_hugeLength_7cf53 : ByteArray := prog_26_method_28_code
def yJ8_hugeLength_7cf53 : MethodName := ⟨RJ8, "hugeLength", "(II)I"⟩
def RJ3 : String := "jdk/internal/util/Preconditions"
def TJ3 : u_T := fun k => match k with
  | _ => ("", "", "", false)
def tyJ3 : Nat → FieldType := fun k => match k with
  | _ => .int
abbrev wsJ30 : List Cond := u_ws RJ3 TJ3 0
theorem nmJ3 : ∀ a, a < 0 → ∀ b, b < 0 → a ≠ b → (TJ3 a).2.1 ≠ (TJ3 b).2.1 := by decide +kernel
theorem tyJ3_ok : ∀ k, k < 0 → parseFieldDescriptor (TJ3 k).2.2.1 = some (tyJ3 k) := by decide +kernel
abbrev cJ3_checkIndex_8e157 : ByteArray := prog_27_method_11_code
def yJ3_checkIndex_8e157 : MethodName := ⟨RJ3, "checkIndex", "(IILjava/util/function/BiFunction;)I"⟩
abbrev cJ3_checkFromToIndex_8c36e : ByteArray := prog_27_method_12_code
def yJ3_checkFromToIndex_8c36e : MethodName := ⟨RJ3, "checkFromToIndex", "(IIILjava/util/function/BiFunction;)I"⟩
abbrev cJ3_checkFromIndexSize_8c36e : ByteArray := prog_27_method_13_code
def yJ3_checkFromIndexSize_8c36e : MethodName := ⟨RJ3, "checkFromIndexSize", "(IIILjava/util/function/BiFunction;)I"⟩
def RL : String := "TwinBootLaw"
abbrev cL_cell : ByteArray := method_2_code
def yL_cell : MethodName := ⟨RL, "cell", "([II)I"⟩
abbrev cL_load : ByteArray := method_3_code
def yL_load : MethodName := ⟨RL, "load", "(LTwinBoot;Ljava/lang/String;)I"⟩
abbrev cL_step : ByteArray := method_4_code
def yL_step : MethodName := ⟨RL, "step", "(LTwinBoot;[II)V"⟩
abbrev cL_whole : ByteArray := method_5_code
def yL_whole : MethodName := ⟨RL, "whole", "(LTwinBoot;)J"⟩
abbrev cL_isTold : ByteArray := method_6_code
def yL_isTold : MethodName := ⟨RL, "isTold", "(LTwinBoot;)Z"⟩
abbrev cL_boots : ByteArray := method_7_code
def yL_boots : MethodName := ⟨RL, "boots", "(LTwinBoot;)Z"⟩
abbrev cL_updates : ByteArray := method_8_code
def yL_updates : MethodName := ⟨RL, "updates", "(LTwinBoot;II)Z"⟩
abbrev cL_law : ByteArray := code
def yL_law : MethodName := ⟨RL, "law", "([I)Z"⟩
abbrev vwCl : List vw_C := [(RJ0, TJ0, 4), (RJ4, TJ4, 4), (RJ0, TJ0, 4), (RX0, TX0, 9), (RX1, TX1, 9), (RX2, TX2, 10), (RX3, TX3, 5), (RX4, TX4, 9), (RX5, TX5, 8), (RX6, TX6, 6)]
