-- ===== PART A: goes FIRST, ahead of the names: the tables' words, and 'selects' of the private methods out of them =====
/-- a private method of a class that the tables say can be made, by its rows of tables_1 -/
def lw_okq (q : MethodName × Nat) : Prop := (q.1.cls ≠ "java/lang/invoke/MethodHandle" ∧ q.1.cls ≠ "java/lang/invoke/VarHandle") ∧ Cond.instantiable q.1.cls q.2 ∈ tables_1 ∧ Cond.privateMethod q.1 ∈ tables_1 ∧ Cond.instanceMethod q.1 ∈ tables_1
theorem lw_p0 : lw_okq (⟨"PlainSeal$Mail", "addRelaxedValue", "(IILPlainSeal$Bytes;)V"⟩, 3) := ⟨⟨by decide +kernel, by decide +kernel⟩, List.mem_of_getElem? (i := 39) (by decide +kernel), List.mem_of_getElem? (i := 236) (by decide +kernel), List.mem_of_getElem? (i := 237) (by decide +kernel)⟩
theorem lw_p1 : lw_okq (⟨"PlainSeal$Mail", "isNamed", "(ILPlainSeal$Bytes;)Z"⟩, 3) := ⟨⟨by decide +kernel, by decide +kernel⟩, List.mem_of_getElem? (i := 39) (by decide +kernel), List.mem_of_getElem? (i := 253) (by decide +kernel), List.mem_of_getElem? (i := 254) (by decide +kernel)⟩
theorem lw_p2 : lw_okq (⟨"PlainSeal$Sha256", "fillSchedule", "(LPlainSeal$Bytes;IZ)V"⟩, 3) := ⟨⟨by decide +kernel, by decide +kernel⟩, List.mem_of_getElem? (i := 70) (by decide +kernel), List.mem_of_getElem? (i := 341) (by decide +kernel), List.mem_of_getElem? (i := 342) (by decide +kernel)⟩
theorem lw_p3 : lw_okq (⟨"PlainSeal$Sha256", "mixBlock", "()V"⟩, 3) := ⟨⟨by decide +kernel, by decide +kernel⟩, List.mem_of_getElem? (i := 70) (by decide +kernel), List.mem_of_getElem? (i := 355) (by decide +kernel), List.mem_of_getElem? (i := 356) (by decide +kernel)⟩
theorem lw_p4 : lw_okq (⟨"PlainSeal$Sha256", "mixRound", "(I)V"⟩, 3) := ⟨⟨by decide +kernel, by decide +kernel⟩, List.mem_of_getElem? (i := 70) (by decide +kernel), List.mem_of_getElem? (i := 361) (by decide +kernel), List.mem_of_getElem? (i := 362) (by decide +kernel)⟩
theorem lw_p5 : lw_okq (⟨"PlainSeal$Modular", "bringBaseBelowModulus", "()V"⟩, 4) := ⟨⟨by decide +kernel, by decide +kernel⟩, List.mem_of_getElem? (i := 86) (by decide +kernel), List.mem_of_getElem? (i := 388) (by decide +kernel), List.mem_of_getElem? (i := 389) (by decide +kernel)⟩
theorem lw_p6 : lw_okq (⟨"PlainSeal$Modular", "divideProduct", "()V"⟩, 4) := ⟨⟨by decide +kernel, by decide +kernel⟩, List.mem_of_getElem? (i := 86) (by decide +kernel), List.mem_of_getElem? (i := 392) (by decide +kernel), List.mem_of_getElem? (i := 393) (by decide +kernel)⟩
theorem lw_p7 : lw_okq (⟨"PlainSeal$Modular", "guessedDigit", "(I)J"⟩, 4) := ⟨⟨by decide +kernel, by decide +kernel⟩, List.mem_of_getElem? (i := 86) (by decide +kernel), List.mem_of_getElem? (i := 396) (by decide +kernel), List.mem_of_getElem? (i := 397) (by decide +kernel)⟩
theorem lw_p8 : lw_okq (⟨"PlainSeal$Modular", "takeAway", "(IJ)V"⟩, 4) := ⟨⟨by decide +kernel, by decide +kernel⟩, List.mem_of_getElem? (i := 86) (by decide +kernel), List.mem_of_getElem? (i := 405) (by decide +kernel), List.mem_of_getElem? (i := 406) (by decide +kernel)⟩
theorem lw_p9 : lw_okq (⟨"PlainSeal$Modular", "giveBack", "(I)J"⟩, 4) := ⟨⟨by decide +kernel, by decide +kernel⟩, List.mem_of_getElem? (i := 86) (by decide +kernel), List.mem_of_getElem? (i := 409) (by decide +kernel), List.mem_of_getElem? (i := 410) (by decide +kernel)⟩
theorem lw_p10 : lw_okq (⟨"PlainSeal$Modular", "multiplyRestBy", "([I)V"⟩, 4) := ⟨⟨by decide +kernel, by decide +kernel⟩, List.mem_of_getElem? (i := 86) (by decide +kernel), List.mem_of_getElem? (i := 413) (by decide +kernel), List.mem_of_getElem? (i := 414) (by decide +kernel)⟩
theorem lw_p11 : lw_okq (⟨"PlainSealModel", "four", "(I)V"⟩, 28) := ⟨⟨by decide +kernel, by decide +kernel⟩, List.mem_of_getElem? (i := 428) (by decide +kernel), List.mem_of_getElem? (i := 611) (by decide +kernel), List.mem_of_getElem? (i := 612) (by decide +kernel)⟩
theorem lw_p12 : lw_okq (⟨"PlainSealModel", "used", "()I"⟩, 28) := ⟨⟨by decide +kernel, by decide +kernel⟩, List.mem_of_getElem? (i := 428) (by decide +kernel), List.mem_of_getElem? (i := 626) (by decide +kernel), List.mem_of_getElem? (i := 627) (by decide +kernel)⟩
theorem lw_p13 : lw_okq (⟨"PlainSealModel", "bodyPlain", "(Z)V"⟩, 28) := ⟨⟨by decide +kernel, by decide +kernel⟩, List.mem_of_getElem? (i := 428) (by decide +kernel), List.mem_of_getElem? (i := 654) (by decide +kernel), List.mem_of_getElem? (i := 655) (by decide +kernel)⟩
theorem lw_p14 : lw_okq (⟨"PlainSealModel", "tell", "(LPlainSealModel$Text;)I"⟩, 28) := ⟨⟨by decide +kernel, by decide +kernel⟩, List.mem_of_getElem? (i := 428) (by decide +kernel), List.mem_of_getElem? (i := 662) (by decide +kernel), List.mem_of_getElem? (i := 663) (by decide +kernel)⟩
theorem lw_p15 : lw_okq (⟨"PlainSealModel", "fieldPlain", "(IZII)V"⟩, 28) := ⟨⟨by decide +kernel, by decide +kernel⟩, List.mem_of_getElem? (i := 428) (by decide +kernel), List.mem_of_getElem? (i := 670) (by decide +kernel), List.mem_of_getElem? (i := 671) (by decide +kernel)⟩
def lw_privs_1 : List (MethodName × Nat) := [(⟨"PlainSeal$Mail", "addRelaxedValue", "(IILPlainSeal$Bytes;)V"⟩, 3), (⟨"PlainSeal$Mail", "isNamed", "(ILPlainSeal$Bytes;)Z"⟩, 3), (⟨"PlainSeal$Sha256", "fillSchedule", "(LPlainSeal$Bytes;IZ)V"⟩, 3), (⟨"PlainSeal$Sha256", "mixBlock", "()V"⟩, 3), (⟨"PlainSeal$Sha256", "mixRound", "(I)V"⟩, 3), (⟨"PlainSeal$Modular", "bringBaseBelowModulus", "()V"⟩, 4), (⟨"PlainSeal$Modular", "divideProduct", "()V"⟩, 4), (⟨"PlainSeal$Modular", "guessedDigit", "(I)J"⟩, 4), (⟨"PlainSeal$Modular", "takeAway", "(IJ)V"⟩, 4), (⟨"PlainSeal$Modular", "giveBack", "(I)J"⟩, 4), (⟨"PlainSeal$Modular", "multiplyRestBy", "([I)V"⟩, 4), (⟨"PlainSealModel", "four", "(I)V"⟩, 28), (⟨"PlainSealModel", "used", "()I"⟩, 28), (⟨"PlainSealModel", "bodyPlain", "(Z)V"⟩, 28), (⟨"PlainSealModel", "tell", "(LPlainSealModel$Text;)I"⟩, 28), (⟨"PlainSealModel", "fieldPlain", "(IZII)V"⟩, 28)]
theorem lw_r1 : ∀ q ∈ lw_privs_1, lw_okq q := List.forall_mem_cons.mpr ⟨lw_p0, List.forall_mem_cons.mpr ⟨lw_p1, List.forall_mem_cons.mpr ⟨lw_p2, List.forall_mem_cons.mpr ⟨lw_p3, List.forall_mem_cons.mpr ⟨lw_p4, List.forall_mem_cons.mpr ⟨lw_p5, List.forall_mem_cons.mpr ⟨lw_p6, List.forall_mem_cons.mpr ⟨lw_p7, List.forall_mem_cons.mpr ⟨lw_p8, List.forall_mem_cons.mpr ⟨lw_p9, List.forall_mem_cons.mpr ⟨lw_p10, List.forall_mem_cons.mpr ⟨lw_p11, List.forall_mem_cons.mpr ⟨lw_p12, List.forall_mem_cons.mpr ⟨lw_p13, List.forall_mem_cons.mpr ⟨lw_p14, List.forall_mem_cons.mpr ⟨lw_p15, fun _ h => absurd h List.not_mem_nil⟩⟩⟩⟩⟩⟩⟩⟩⟩⟩⟩⟩⟩⟩⟩⟩
theorem lw_p16 : lw_okq (⟨"PlainSealModel", "valueEnd", "(I)I"⟩, 28) := ⟨⟨by decide +kernel, by decide +kernel⟩, List.mem_of_getElem? (i := 428) (by decide +kernel), List.mem_of_getElem? (i := 674) (by decide +kernel), List.mem_of_getElem? (i := 675) (by decide +kernel)⟩
theorem lw_p17 : lw_okq (⟨"PlainSealModel$Tags", "isSame", "(III)Z"⟩, 5) := ⟨⟨by decide +kernel, by decide +kernel⟩, List.mem_of_getElem? (i := 451) (by decide +kernel), List.mem_of_getElem? (i := 695) (by decide +kernel), List.mem_of_getElem? (i := 696) (by decide +kernel)⟩
theorem lw_p18 : lw_okq (⟨"PlainSealModel", "digest", "([BI[B)V"⟩, 28) := ⟨⟨by decide +kernel, by decide +kernel⟩, List.mem_of_getElem? (i := 428) (by decide +kernel), List.mem_of_getElem? (i := 719) (by decide +kernel), List.mem_of_getElem? (i := 720) (by decide +kernel)⟩
theorem lw_p19 : lw_okq (⟨"PlainSealModel$Hash", "round", "()V"⟩, 7) := ⟨⟨by decide +kernel, by decide +kernel⟩, List.mem_of_getElem? (i := 479) (by decide +kernel), List.mem_of_getElem? (i := 736) (by decide +kernel), List.mem_of_getElem? (i := 737) (by decide +kernel)⟩
theorem lw_p20 : lw_okq (⟨"PlainSealModel", "remainder", "([II[I)V"⟩, 28) := ⟨⟨by decide +kernel, by decide +kernel⟩, List.mem_of_getElem? (i := 428) (by decide +kernel), List.mem_of_getElem? (i := 762) (by decide +kernel), List.mem_of_getElem? (i := 763) (by decide +kernel)⟩
theorem lw_p21 : lw_okq (⟨"PlainSealModel", "times", "([I)V"⟩, 28) := ⟨⟨by decide +kernel, by decide +kernel⟩, List.mem_of_getElem? (i := 428) (by decide +kernel), List.mem_of_getElem? (i := 770) (by decide +kernel), List.mem_of_getElem? (i := 771) (by decide +kernel)⟩
def lw_privs_2 : List (MethodName × Nat) := [(⟨"PlainSealModel", "valueEnd", "(I)I"⟩, 28), (⟨"PlainSealModel$Tags", "isSame", "(III)Z"⟩, 5), (⟨"PlainSealModel", "digest", "([BI[B)V"⟩, 28), (⟨"PlainSealModel$Hash", "round", "()V"⟩, 7), (⟨"PlainSealModel", "remainder", "([II[I)V"⟩, 28), (⟨"PlainSealModel", "times", "([I)V"⟩, 28)]
theorem lw_r2 : ∀ q ∈ lw_privs_2, lw_okq q := List.forall_mem_cons.mpr ⟨lw_p16, List.forall_mem_cons.mpr ⟨lw_p17, List.forall_mem_cons.mpr ⟨lw_p18, List.forall_mem_cons.mpr ⟨lw_p19, List.forall_mem_cons.mpr ⟨lw_p20, List.forall_mem_cons.mpr ⟨lw_p21, fun _ h => absurd h List.not_mem_nil⟩⟩⟩⟩⟩⟩
def lw_privs : List (MethodName × Nat) := lw_privs_1 ++ (lw_privs_2)
def lw_tbl : List Cond := k2_sels lw_privs ++ tables_1
theorem lw_privs_ok : ∀ q ∈ lw_privs, lw_okq q := by
  show ∀ q ∈ lw_privs_1 ++ (lw_privs_2), lw_okq q
  exact List.forall_mem_append.mpr ⟨lw_r1, lw_r2⟩
-- names: classes, fields, methods
def RX0 : String := "PlainSeal$Bytes"
def TX0 : u_T := fun k => match k with
  | 0 => ("PlainSeal$Bytes", "held", "[B", true)
  | _ => ("PlainSeal$Bytes", "size", "I", false)
def tyX0 : Nat → FieldType := fun k => match k with
  | 0 => .array .byte
  | _ => .int
theorem nmX0 : ∀ a, a < 2 → ∀ b, b < 2 → a ≠ b → (TX0 a).2.1 ≠ (TX0 b).2.1 := by decide +kernel
theorem tyX0_ok : ∀ k, k < 2 → parseFieldDescriptor (TX0 k).2.2.1 = some (tyX0 k) := by decide +kernel
abbrev cX0_init : ByteArray := prog_2_method_1_code
def yX0_init : MethodName := ⟨RX0, "<init>", "()V"⟩
abbrev cX0_size : ByteArray := prog_2_method_2_code
def yX0_size : MethodName := ⟨RX0, "size", "()I"⟩
abbrev cX0_at : ByteArray := prog_2_method_3_code
def yX0_at : MethodName := ⟨RX0, "at", "(I)I"⟩
abbrev cX0_clear : ByteArray := prog_2_method_4_code
def yX0_clear : MethodName := ⟨RX0, "clear", "()V"⟩
abbrev cX0_cutTo : ByteArray := prog_2_method_5_code
def yX0_cutTo : MethodName := ⟨RX0, "cutTo", "(I)V"⟩
abbrev cX0_add : ByteArray := prog_2_method_6_code
def yX0_add : MethodName := ⟨RX0, "add", "(I)V"⟩
abbrev cX0_addTimes : ByteArray := prog_2_method_7_code
def yX0_addTimes : MethodName := ⟨RX0, "addTimes", "(II)V"⟩
abbrev cX0_addWord : ByteArray := prog_2_method_8_code
def yX0_addWord : MethodName := ⟨RX0, "addWord", "(I)V"⟩
abbrev cX0_addPart : ByteArray := prog_2_method_9_code
def yX0_addPart : MethodName := ⟨RX0, "addPart", "(LPlainSeal$Bytes;II)V"⟩
abbrev cX0_become : ByteArray := prog_2_method_10_code
def yX0_become : MethodName := ⟨RX0, "become", "(LPlainSeal$Bytes;)V"⟩
abbrev cX0_find : ByteArray := prog_2_method_11_code
def yX0_find : MethodName := ⟨RX0, "find", "(II)I"⟩
abbrev cX0_dropWhiteAndNewlines : ByteArray := prog_2_method_12_code
def yX0_dropWhiteAndNewlines : MethodName := ⟨RX0, "dropWhiteAndNewlines", "()V"⟩
def RX1 : String := "PlainSeal$Mail"
def TX1 : u_T := fun k => match k with
  | 0 => ("PlainSeal$Mail", "text", "LPlainSeal$Bytes;", true)
  | 1 => ("PlainSeal$Mail", "places", "[I", true)
  | _ => ("PlainSeal$Mail", "fields", "I", false)
def tyX1 : Nat → FieldType := fun k => match k with
  | 0 => .object "PlainSeal$Bytes"
  | 1 => .array .int
  | _ => .int
theorem nmX1 : ∀ a, a < 3 → ∀ b, b < 3 → a ≠ b → (TX1 a).2.1 ≠ (TX1 b).2.1 := by decide +kernel
theorem tyX1_ok : ∀ k, k < 3 → parseFieldDescriptor (TX1 k).2.2.1 = some (tyX1 k) := by decide +kernel
abbrev cX1_init : ByteArray := prog_3_method_1_code
def yX1_init : MethodName := ⟨RX1, "<init>", "()V"⟩
abbrev cX1_isMissing : ByteArray := prog_3_method_2_code
def yX1_isMissing : MethodName := ⟨RX1, "isMissing", "()Z"⟩
abbrev cX1_hasField : ByteArray := prog_3_method_3_code
def yX1_hasField : MethodName := ⟨RX1, "hasField", "(I)Z"⟩
abbrev cX1_read : ByteArray := prog_3_method_4_code
def yX1_read : MethodName := ⟨RX1, "read", "(LPlainSeal$Bytes;)I"⟩
abbrev cX1_countFields : ByteArray := prog_3_method_5_code
def yX1_countFields : MethodName := ⟨RX1, "countFields", "(LPlainSeal$Bytes;)I"⟩
abbrev cX1_fieldsEndAt : ByteArray := prog_3_method_6_code
def yX1_fieldsEndAt : MethodName := ⟨RX1, "fieldsEndAt", "(LPlainSeal$Bytes;I)Z"⟩
abbrev cX1_nameLength : ByteArray := prog_3_method_7_code
def yX1_nameLength : MethodName := ⟨RX1, "nameLength", "(LPlainSeal$Bytes;I)I"⟩
abbrev cX1_isOfName : ByteArray := prog_3_method_8_code
def yX1_isOfName : MethodName := ⟨RX1, "isOfName", "(I)Z"⟩
abbrev cX1_fieldStop : ByteArray := prog_3_method_9_code
def yX1_fieldStop : MethodName := ⟨RX1, "fieldStop", "(LPlainSeal$Bytes;I)I"⟩
abbrev cX1_countNamed : ByteArray := prog_3_method_10_code
def yX1_countNamed : MethodName := ⟨RX1, "countNamed", "(LPlainSeal$Bytes;)I"⟩
abbrev cX1_isNamed : ByteArray := prog_3_method_11_code
def yX1_isNamed : MethodName := ⟨RX1, "isNamed", "(ILPlainSeal$Bytes;)Z"⟩
abbrev cX1_writeBody : ByteArray := prog_3_method_12_code
def yX1_writeBody : MethodName := ⟨RX1, "writeBody", "(ZLPlainSeal$Bytes;)V"⟩
abbrev cX1_writeSimpleField : ByteArray := prog_3_method_13_code
def yX1_writeSimpleField : MethodName := ⟨RX1, "writeSimpleField", "(ILPlainSeal$Bytes;)V"⟩
abbrev cX1_writeRelaxedField : ByteArray := prog_3_method_14_code
def yX1_writeRelaxedField : MethodName := ⟨RX1, "writeRelaxedField", "(ILPlainSeal$Bytes;)V"⟩
abbrev cX1_addRelaxedValue : ByteArray := prog_3_method_15_code
def yX1_addRelaxedValue : MethodName := ⟨RX1, "addRelaxedValue", "(IILPlainSeal$Bytes;)V"⟩
def RX2 : String := "PlainSeal$Modular"
def TX2 : u_T := fun k => match k with
  | 0 => ("PlainSeal$Modular", "base", "[I", true)
  | 1 => ("PlainSeal$Modular", "modulus", "[I", true)
  | 2 => ("PlainSeal$Modular", "rest", "[I", true)
  | _ => ("PlainSeal$Modular", "product", "[I", true)
def tyX2 : Nat → FieldType := fun k => match k with
  | 0 => .array .int
  | 1 => .array .int
  | 2 => .array .int
  | _ => .array .int
theorem nmX2 : ∀ a, a < 4 → ∀ b, b < 4 → a ≠ b → (TX2 a).2.1 ≠ (TX2 b).2.1 := by decide +kernel
theorem tyX2_ok : ∀ k, k < 4 → parseFieldDescriptor (TX2 k).2.2.1 = some (tyX2 k) := by decide +kernel
abbrev cX2_init : ByteArray := prog_4_method_1_code
def yX2_init : MethodName := ⟨RX2, "<init>", "()V"⟩
abbrev cX2_canTake : ByteArray := prog_4_method_2_code
def yX2_canTake : MethodName := ⟨RX2, "canTake", "(LPlainSeal$Bytes;)Z"⟩
abbrev cX2_take : ByteArray := prog_4_method_3_code
def yX2_take : MethodName := ⟨RX2, "take", "(LPlainSeal$Bytes;)V"⟩
abbrev cX2_takeNumber : ByteArray := prog_4_method_4_code
def yX2_takeNumber : MethodName := ⟨RX2, "takeNumber", "(LPlainSeal$Bytes;I[I)V"⟩
abbrev cX2_write : ByteArray := prog_4_method_5_code
def yX2_write : MethodName := ⟨RX2, "write", "(LPlainSeal$Bytes;)V"⟩
abbrev cX2_raise : ByteArray := prog_4_method_6_code
def yX2_raise : MethodName := ⟨RX2, "raise", "()V"⟩
abbrev cX2_bringBaseBelowModulus : ByteArray := prog_4_method_7_code
def yX2_bringBaseBelowModulus : MethodName := ⟨RX2, "bringBaseBelowModulus", "()V"⟩
abbrev cX2_multiplyRestBy : ByteArray := prog_4_method_8_code
def yX2_multiplyRestBy : MethodName := ⟨RX2, "multiplyRestBy", "([I)V"⟩
abbrev cX2_divideProduct : ByteArray := prog_4_method_9_code
def yX2_divideProduct : MethodName := ⟨RX2, "divideProduct", "()V"⟩
abbrev cX2_guessedDigit : ByteArray := prog_4_method_10_code
def yX2_guessedDigit : MethodName := ⟨RX2, "guessedDigit", "(I)J"⟩
abbrev cX2_takeAway : ByteArray := prog_4_method_11_code
def yX2_takeAway : MethodName := ⟨RX2, "takeAway", "(IJ)V"⟩
abbrev cX2_giveBack : ByteArray := prog_4_method_12_code
def yX2_giveBack : MethodName := ⟨RX2, "giveBack", "(I)J"⟩
def RX3 : String := "PlainSeal$Sha256"
def TX3 : u_T := fun k => match k with
  | 0 => ("PlainSeal$Sha256", "state", "[I", true)
  | 1 => ("PlainSeal$Sha256", "mixed", "[I", true)
  | _ => ("PlainSeal$Sha256", "schedule", "[I", true)
def tyX3 : Nat → FieldType := fun k => match k with
  | 0 => .array .int
  | 1 => .array .int
  | _ => .array .int
theorem nmX3 : ∀ a, a < 3 → ∀ b, b < 3 → a ≠ b → (TX3 a).2.1 ≠ (TX3 b).2.1 := by decide +kernel
theorem tyX3_ok : ∀ k, k < 3 → parseFieldDescriptor (TX3 k).2.2.1 = some (tyX3 k) := by decide +kernel
abbrev cX3_init : ByteArray := prog_5_method_1_code
def yX3_init : MethodName := ⟨RX3, "<init>", "()V"⟩
abbrev cX3_write : ByteArray := prog_5_method_2_code
def yX3_write : MethodName := ⟨RX3, "write", "(LPlainSeal$Bytes;LPlainSeal$Bytes;)V"⟩
abbrev cX3_fillSchedule : ByteArray := prog_5_method_3_code
def yX3_fillSchedule : MethodName := ⟨RX3, "fillSchedule", "(LPlainSeal$Bytes;IZ)V"⟩
abbrev cX3_paddedWord : ByteArray := prog_5_method_4_code
def yX3_paddedWord : MethodName := ⟨RX3, "paddedWord", "(LPlainSeal$Bytes;I)I"⟩
abbrev cX3_paddedByte : ByteArray := prog_5_method_5_code
def yX3_paddedByte : MethodName := ⟨RX3, "paddedByte", "(LPlainSeal$Bytes;I)I"⟩
abbrev cX3_turned : ByteArray := prog_5_method_6_code
def yX3_turned : MethodName := ⟨RX3, "turned", "(II)I"⟩
abbrev cX3_mixBlock : ByteArray := prog_5_method_7_code
def yX3_mixBlock : MethodName := ⟨RX3, "mixBlock", "()V"⟩
abbrev cX3_mixRound : ByteArray := prog_5_method_8_code
def yX3_mixRound : MethodName := ⟨RX3, "mixRound", "(I)V"⟩
def RX4 : String := "PlainSeal$SixBits"
def TX4 : u_T := fun k => match k with
  | _ => ("", "", "", false)
def tyX4 : Nat → FieldType := fun k => match k with
  | _ => .int
theorem nmX4 : ∀ a, a < 0 → ∀ b, b < 0 → a ≠ b → (TX4 a).2.1 ≠ (TX4 b).2.1 := by decide +kernel
theorem tyX4_ok : ∀ k, k < 0 → parseFieldDescriptor (TX4 k).2.2.1 = some (tyX4 k) := by decide +kernel
abbrev cX4_areOf : ByteArray := prog_6_method_2_code
def yX4_areOf : MethodName := ⟨RX4, "areOf", "(ILPlainSeal$Bytes;)Z"⟩
abbrev cX4_lettersFor : ByteArray := prog_6_method_3_code
def yX4_lettersFor : MethodName := ⟨RX4, "lettersFor", "(I)I"⟩
abbrev cX4_bitsOver : ByteArray := prog_6_method_4_code
def yX4_bitsOver : MethodName := ⟨RX4, "bitsOver", "(I)I"⟩
abbrev cX4_sixBits : ByteArray := prog_6_method_5_code
def yX4_sixBits : MethodName := ⟨RX4, "sixBits", "(I)I"⟩
abbrev cX4_write : ByteArray := prog_6_method_6_code
def yX4_write : MethodName := ⟨RX4, "write", "(ILPlainSeal$Bytes;LPlainSeal$Bytes;)V"⟩
def RX5 : String := "PlainSeal$TagList"
def TX5 : u_T := fun k => match k with
  | _ => ("PlainSeal$TagList", "text", "LPlainSeal$Bytes;", true)
def tyX5 : Nat → FieldType := fun k => match k with
  | _ => .object "PlainSeal$Bytes"
theorem nmX5 : ∀ a, a < 1 → ∀ b, b < 1 → a ≠ b → (TX5 a).2.1 ≠ (TX5 b).2.1 := by decide +kernel
theorem tyX5_ok : ∀ k, k < 1 → parseFieldDescriptor (TX5 k).2.2.1 = some (tyX5 k) := by decide +kernel
abbrev cX5_init : ByteArray := prog_7_method_1_code
def yX5_init : MethodName := ⟨RX5, "<init>", "()V"⟩
abbrev cX5_read : ByteArray := prog_7_method_2_code
def yX5_read : MethodName := ⟨RX5, "read", "(LPlainSeal$Bytes;)I"⟩
abbrev cX5_countTags : ByteArray := prog_7_method_3_code
def yX5_countTags : MethodName := ⟨RX5, "countTags", "(LPlainSeal$Bytes;)I"⟩
abbrev cX5_lettersLength : ByteArray := prog_7_method_4_code
def yX5_lettersLength : MethodName := ⟨RX5, "lettersLength", "(LPlainSeal$Bytes;I)I"⟩
abbrev cX5_valueOf : ByteArray := prog_7_method_5_code
def yX5_valueOf : MethodName := ⟨RX5, "valueOf", "(LPlainSeal$Bytes;ILPlainSeal$Bytes;II)I"⟩
abbrev cX5_isSame : ByteArray := prog_7_method_6_code
def yX5_isSame : MethodName := ⟨RX5, "isSame", "(LPlainSeal$Bytes;ILPlainSeal$Bytes;II)Z"⟩
abbrev cX5_writeValue : ByteArray := prog_7_method_7_code
def yX5_writeValue : MethodName := ⟨RX5, "writeValue", "(LPlainSeal$Bytes;LPlainSeal$Bytes;)I"⟩
def RX6 : String := "PlainSeal"
def TX6 : u_T := fun k => match k with
  | 0 => ("PlainSeal", "tape", "LPlainSeal$Bytes;", true)
  | 1 => ("PlainSeal", "out", "LPlainSeal$Bytes;", true)
  | 2 => ("PlainSeal", "mail", "LPlainSeal$Mail;", true)
  | 3 => ("PlainSeal", "tagList", "LPlainSeal$TagList;", true)
  | 4 => ("PlainSeal", "sha256", "LPlainSeal$Sha256;", true)
  | _ => ("PlainSeal", "modular", "LPlainSeal$Modular;", true)
def tyX6 : Nat → FieldType := fun k => match k with
  | 0 => .object "PlainSeal$Bytes"
  | 1 => .object "PlainSeal$Bytes"
  | 2 => .object "PlainSeal$Mail"
  | 3 => .object "PlainSeal$TagList"
  | 4 => .object "PlainSeal$Sha256"
  | _ => .object "PlainSeal$Modular"
theorem nmX6 : ∀ a, a < 6 → ∀ b, b < 6 → a ≠ b → (TX6 a).2.1 ≠ (TX6 b).2.1 := by decide +kernel
theorem tyX6_ok : ∀ k, k < 6 → parseFieldDescriptor (TX6 k).2.2.1 = some (tyX6 k) := by decide +kernel
abbrev cX6_init : ByteArray := prog_1_method_1_code
def yX6_init : MethodName := ⟨RX6, "<init>", "()V"⟩
abbrev cX6_feed : ByteArray := prog_1_method_2_code
def yX6_feed : MethodName := ⟨RX6, "feed", "(IIIII)I"⟩
abbrev cX6_end : ByteArray := prog_1_method_3_code
def yX6_end : MethodName := ⟨RX6, "end", "(I)I"⟩
abbrev cX6_message : ByteArray := prog_1_method_4_code
def yX6_message : MethodName := ⟨RX6, "message", "()I"⟩
abbrev cX6_plainBody : ByteArray := prog_1_method_5_code
def yX6_plainBody : MethodName := ⟨RX6, "plainBody", "(Z)I"⟩
abbrev cX6_plainField : ByteArray := prog_1_method_6_code
def yX6_plainField : MethodName := ⟨RX6, "plainField", "(IZ)I"⟩
abbrev cX6_named : ByteArray := prog_1_method_7_code
def yX6_named : MethodName := ⟨RX6, "named", "()I"⟩
abbrev cX6_tags : ByteArray := prog_1_method_8_code
def yX6_tags : MethodName := ⟨RX6, "tags", "()I"⟩
abbrev cX6_tag : ByteArray := prog_1_method_9_code
def yX6_tag : MethodName := ⟨RX6, "tag", "()I"⟩
abbrev cX6_decode : ByteArray := prog_1_method_10_code
def yX6_decode : MethodName := ⟨RX6, "decode", "(I)I"⟩
abbrev cX6_digest : ByteArray := prog_1_method_11_code
def yX6_digest : MethodName := ⟨RX6, "digest", "()I"⟩
abbrev cX6_power : ByteArray := prog_1_method_12_code
def yX6_power : MethodName := ⟨RX6, "power", "()I"⟩
abbrev cX6_octet : ByteArray := prog_1_method_13_code
def yX6_octet : MethodName := ⟨RX6, "octet", "(I)I"⟩
abbrev cX6_isWhite : ByteArray := prog_1_method_14_code
def yX6_isWhite : MethodName := ⟨RX6, "isWhite", "(I)Z"⟩
abbrev cX6_isSmallLetter : ByteArray := prog_1_method_15_code
def yX6_isSmallLetter : MethodName := ⟨RX6, "isSmallLetter", "(I)Z"⟩
abbrev cX6_isGreatLetter : ByteArray := prog_1_method_16_code
def yX6_isGreatLetter : MethodName := ⟨RX6, "isGreatLetter", "(I)Z"⟩
abbrev cX6_isDigit : ByteArray := prog_1_method_17_code
def yX6_isDigit : MethodName := ⟨RX6, "isDigit", "(I)Z"⟩
abbrev cX6_small : ByteArray := prog_1_method_18_code
def yX6_small : MethodName := ⟨RX6, "small", "(I)I"⟩
def RX7 : String := "PlainSealModel$Hash"
def TX7 : u_T := fun k => match k with
  | 0 => ("PlainSealModel$Hash", "first", "[I", true)
  | 1 => ("PlainSealModel$Hash", "h", "[I", true)
  | 2 => ("PlainSealModel$Hash", "w", "[I", true)
  | 3 => ("PlainSealModel$Hash", "k", "[I", true)
  | 4 => ("PlainSealModel$Hash", "block", "[B", true)
  | 5 => ("PlainSealModel$Hash", "many", "I", false)
  | _ => ("PlainSealModel$Hash", "all", "J", false)
def tyX7 : Nat → FieldType := fun k => match k with
  | 0 => .array .int
  | 1 => .array .int
  | 2 => .array .int
  | 3 => .array .int
  | 4 => .array .byte
  | 5 => .int
  | _ => .long
theorem nmX7 : ∀ a, a < 7 → ∀ b, b < 7 → a ≠ b → (TX7 a).2.1 ≠ (TX7 b).2.1 := by decide +kernel
theorem tyX7_ok : ∀ k, k < 7 → parseFieldDescriptor (TX7 k).2.2.1 = some (tyX7 k) := by decide +kernel
abbrev cX7_init : ByteArray := prog_10_method_1_code
def yX7_init : MethodName := ⟨RX7, "<init>", "()V"⟩
abbrev cX7_isPrime : ByteArray := prog_10_method_2_code
def yX7_isPrime : MethodName := ⟨RX7, "isPrime", "(I)Z"⟩
abbrev cX7_rootOf : ByteArray := prog_10_method_3_code
def yX7_rootOf : MethodName := ⟨RX7, "rootOf", "(II)I"⟩
abbrev cX7_isAtMost : ByteArray := prog_10_method_4_code
def yX7_isAtMost : MethodName := ⟨RX7, "isAtMost", "(JII)Z"⟩
abbrev cX7_begin : ByteArray := prog_10_method_5_code
def yX7_begin : MethodName := ⟨RX7, "begin", "()V"⟩
abbrev cX7_one : ByteArray := prog_10_method_6_code
def yX7_one : MethodName := ⟨RX7, "one", "(I)V"⟩
abbrev cX7_add : ByteArray := prog_10_method_7_code
def yX7_add : MethodName := ⟨RX7, "add", "([BII)V"⟩
abbrev cX7_four : ByteArray := prog_10_method_8_code
def yX7_four : MethodName := ⟨RX7, "four", "(I)V"⟩
abbrev cX7_finish : ByteArray := prog_10_method_9_code
def yX7_finish : MethodName := ⟨RX7, "finish", "([BI)V"⟩
abbrev cX7_round : ByteArray := prog_10_method_10_code
def yX7_round : MethodName := ⟨RX7, "round", "()V"⟩
def RX8 : String := "PlainSealModel$Tags"
def TX8 : u_T := fun k => match k with
  | 0 => ("PlainSealModel$Tags", "text", "LPlainSealModel$Text;", true)
  | 1 => ("PlainSealModel$Tags", "from", "[I", true)
  | 2 => ("PlainSealModel$Tags", "equals", "[I", true)
  | 3 => ("PlainSealModel$Tags", "to", "[I", true)
  | _ => ("PlainSealModel$Tags", "many", "I", false)
def tyX8 : Nat → FieldType := fun k => match k with
  | 0 => .object "PlainSealModel$Text"
  | 1 => .array .int
  | 2 => .array .int
  | 3 => .array .int
  | _ => .int
theorem nmX8 : ∀ a, a < 5 → ∀ b, b < 5 → a ≠ b → (TX8 a).2.1 ≠ (TX8 b).2.1 := by decide +kernel
theorem tyX8_ok : ∀ k, k < 5 → parseFieldDescriptor (TX8 k).2.2.1 = some (tyX8 k) := by decide +kernel
abbrev cX8_init : ByteArray := prog_11_method_1_code
def yX8_init : MethodName := ⟨RX8, "<init>", "(I)V"⟩
abbrev cX8_read : ByteArray := prog_11_method_2_code
def yX8_read : MethodName := ⟨RX8, "read", "(I)Z"⟩
abbrev cX8_isSame : ByteArray := prog_11_method_3_code
def yX8_isSame : MethodName := ⟨RX8, "isSame", "(III)Z"⟩
abbrev cX8_find : ByteArray := prog_11_method_4_code
def yX8_find : MethodName := ⟨RX8, "find", "([BI)I"⟩
def RX9 : String := "PlainSealModel$Text"
def TX9 : u_T := fun k => match k with
  | 0 => ("PlainSealModel$Text", "b", "[B", true)
  | _ => ("PlainSealModel$Text", "n", "I", false)
def tyX9 : Nat → FieldType := fun k => match k with
  | 0 => .array .byte
  | _ => .int
theorem nmX9 : ∀ a, a < 2 → ∀ b, b < 2 → a ≠ b → (TX9 a).2.1 ≠ (TX9 b).2.1 := by decide +kernel
theorem tyX9_ok : ∀ k, k < 2 → parseFieldDescriptor (TX9 k).2.2.1 = some (tyX9 k) := by decide +kernel
abbrev cX9_init : ByteArray := prog_12_method_1_code
def yX9_init : MethodName := ⟨RX9, "<init>", "(I)V"⟩
abbrev cX9_add : ByteArray := prog_12_method_2_code
def yX9_add : MethodName := ⟨RX9, "add", "(I)V"⟩
def RX10 : String := "PlainSealModel"
def TX10 : u_T := fun k => match k with
  | 0 => ("PlainSealModel", "tape", "[B", true)
  | 1 => ("PlainSealModel", "tapeMany", "I", false)
  | 2 => ("PlainSealModel", "outMany", "I", false)
  | 3 => ("PlainSealModel", "out", "[B", true)
  | 4 => ("PlainSealModel", "mail", "[B", true)
  | 5 => ("PlainSealModel", "begin", "[I", true)
  | 6 => ("PlainSealModel", "colon", "[I", true)
  | 7 => ("PlainSealModel", "stop", "[I", true)
  | 8 => ("PlainSealModel", "newBegin", "[I", true)
  | 9 => ("PlainSealModel", "newColon", "[I", true)
  | 10 => ("PlainSealModel", "newStop", "[I", true)
  | 11 => ("PlainSealModel", "fields", "I", false)
  | 12 => ("PlainSealModel", "body", "I", false)
  | 13 => ("PlainSealModel", "mailMany", "I", false)
  | 14 => ("PlainSealModel", "mailed", "Z", false)
  | 15 => ("PlainSealModel", "plain", "LPlainSealModel$Text;", true)
  | 16 => ("PlainSealModel", "told", "LPlainSealModel$Tags;", false)
  | 17 => ("PlainSealModel", "draft", "LPlainSealModel$Tags;", false)
  | 18 => ("PlainSealModel", "made", "[B", true)
  | 19 => ("PlainSealModel", "hash", "LPlainSealModel$Hash;", true)
  | 20 => ("PlainSealModel", "modulus", "[I", true)
  | 21 => ("PlainSealModel", "power", "[I", true)
  | 22 => ("PlainSealModel", "number", "[I", true)
  | 23 => ("PlainSealModel", "product", "[I", true)
  | 24 => ("PlainSealModel", "square", "[I", true)
  | 25 => ("PlainSealModel", "hashed", "[B", true)
  | 26 => ("PlainSealModel", "first", "[B", true)
  | _ => ("PlainSealModel", "second", "[B", true)
def tyX10 : Nat → FieldType := fun k => match k with
  | 0 => .array .byte
  | 1 => .int
  | 2 => .int
  | 3 => .array .byte
  | 4 => .array .byte
  | 5 => .array .int
  | 6 => .array .int
  | 7 => .array .int
  | 8 => .array .int
  | 9 => .array .int
  | 10 => .array .int
  | 11 => .int
  | 12 => .int
  | 13 => .int
  | 14 => .boolean
  | 15 => .object "PlainSealModel$Text"
  | 16 => .object "PlainSealModel$Tags"
  | 17 => .object "PlainSealModel$Tags"
  | 18 => .array .byte
  | 19 => .object "PlainSealModel$Hash"
  | 20 => .array .int
  | 21 => .array .int
  | 22 => .array .int
  | 23 => .array .int
  | 24 => .array .int
  | 25 => .array .byte
  | 26 => .array .byte
  | _ => .array .byte
theorem nmX10 : ∀ a, a < 28 → ∀ b, b < 28 → a ≠ b → (TX10 a).2.1 ≠ (TX10 b).2.1 := by decide +kernel
theorem tyX10_ok : ∀ k, k < 28 → parseFieldDescriptor (TX10 k).2.2.1 = some (tyX10 k) := by decide +kernel
abbrev cX10_in : ByteArray := prog_9_method_1_code
def yX10_in : MethodName := ⟨RX10, "in", "(JJJ)Z"⟩
abbrev cX10_isSmall : ByteArray := prog_9_method_2_code
def yX10_isSmall : MethodName := ⟨RX10, "isSmall", "(I)Z"⟩
abbrev cX10_isDigit : ByteArray := prog_9_method_3_code
def yX10_isDigit : MethodName := ⟨RX10, "isDigit", "(I)Z"⟩
abbrev cX10_isLetter : ByteArray := prog_9_method_4_code
def yX10_isLetter : MethodName := ⟨RX10, "isLetter", "(I)Z"⟩
abbrev cX10_small : ByteArray := prog_9_method_5_code
def yX10_small : MethodName := ⟨RX10, "small", "(I)I"⟩
abbrev cX10_isWhite : ByteArray := prog_9_method_6_code
def yX10_isWhite : MethodName := ⟨RX10, "isWhite", "(I)Z"⟩
abbrev cX10_init : ByteArray := prog_9_method_7_code
def yX10_init : MethodName := ⟨RX10, "<init>", "()V"⟩
abbrev cX10_feed : ByteArray := prog_9_method_8_code
def yX10_feed : MethodName := ⟨RX10, "feed", "(IIIII)I"⟩
abbrev cX10_four : ByteArray := prog_9_method_9_code
def yX10_four : MethodName := ⟨RX10, "four", "(I)V"⟩
abbrev cX10_end : ByteArray := prog_9_method_10_code
def yX10_end : MethodName := ⟨RX10, "end", "(I)I"⟩
abbrev cX10_used : ByteArray := prog_9_method_11_code
def yX10_used : MethodName := ⟨RX10, "used", "()I"⟩
abbrev cX10_lineEnd : ByteArray := prog_9_method_12_code
def yX10_lineEnd : MethodName := ⟨RX10, "lineEnd", "([BII)I"⟩
abbrev cX10_message : ByteArray := prog_9_method_13_code
def yX10_message : MethodName := ⟨RX10, "message", "()I"⟩
abbrev cX10_valueEnd : ByteArray := prog_9_method_14_code
def yX10_valueEnd : MethodName := ⟨RX10, "valueEnd", "(I)I"⟩
abbrev cX10_bodyPlain : ByteArray := prog_9_method_15_code
def yX10_bodyPlain : MethodName := ⟨RX10, "bodyPlain", "(Z)V"⟩
abbrev cX10_fieldPlain : ByteArray := prog_9_method_16_code
def yX10_fieldPlain : MethodName := ⟨RX10, "fieldPlain", "(IZII)V"⟩
abbrev cX10_tell : ByteArray := prog_9_method_17_code
def yX10_tell : MethodName := ⟨RX10, "tell", "(LPlainSealModel$Text;)I"⟩
abbrev cX10_plainBody : ByteArray := prog_9_method_18_code
def yX10_plainBody : MethodName := ⟨RX10, "plainBody", "(Z)I"⟩
abbrev cX10_plainField : ByteArray := prog_9_method_19_code
def yX10_plainField : MethodName := ⟨RX10, "plainField", "(IZ)I"⟩
abbrev cX10_named : ByteArray := prog_9_method_20_code
def yX10_named : MethodName := ⟨RX10, "named", "()I"⟩
abbrev cX10_tags : ByteArray := prog_9_method_21_code
def yX10_tags : MethodName := ⟨RX10, "tags", "()I"⟩
abbrev cX10_tag : ByteArray := prog_9_method_22_code
def yX10_tag : MethodName := ⟨RX10, "tag", "()I"⟩
abbrev cX10_digitOf : ByteArray := prog_9_method_23_code
def yX10_digitOf : MethodName := ⟨RX10, "digitOf", "(I)I"⟩
abbrev cX10_decode : ByteArray := prog_9_method_24_code
def yX10_decode : MethodName := ⟨RX10, "decode", "(I)I"⟩
abbrev cX10_digest : ByteArray := prog_9_method_25_code
def yX10_digest : MethodName := ⟨RX10, "digest", "([BI[B)V"⟩
abbrev cX10_digits : ByteArray := prog_9_method_26_code
def yX10_digits : MethodName := ⟨RX10, "digits", "([B[I)V"⟩
abbrev cX10_remainder : ByteArray := prog_9_method_27_code
def yX10_remainder : MethodName := ⟨RX10, "remainder", "([II[I)V"⟩
abbrev cX10_isBelow : ByteArray := prog_9_method_28_code
def yX10_isBelow : MethodName := ⟨RX10, "isBelow", "([I[I)Z"⟩
abbrev cX10_times : ByteArray := prog_9_method_29_code
def yX10_times : MethodName := ⟨RX10, "times", "([I)V"⟩
abbrev cX10_digest_ : ByteArray := prog_9_method_30_code
def yX10_digest_ : MethodName := ⟨RX10, "digest", "()I"⟩
abbrev cX10_power : ByteArray := prog_9_method_31_code
def yX10_power : MethodName := ⟨RX10, "power", "()I"⟩
abbrev cX10_octet : ByteArray := prog_9_method_32_code
def yX10_octet : MethodName := ⟨RX10, "octet", "(I)I"⟩
def RJ6 : String := "java/lang/Integer"
def TJ6 : u_T := fun k => match k with
  | _ => ("", "", "", false)
def tyJ6 : Nat → FieldType := fun k => match k with
  | _ => .int
theorem nmJ6 : ∀ a, a < 0 → ∀ b, b < 0 → a ≠ b → (TJ6 a).2.1 ≠ (TJ6 b).2.1 := by decide +kernel
theorem tyJ6_ok : ∀ k, k < 0 → parseFieldDescriptor (TJ6 k).2.2.1 = some (tyJ6 k) := by decide +kernel
abbrev cJ6_rotateRight_7cf53 : ByteArray := prog_13_method_51_code
def yJ6_rotateRight_7cf53 : MethodName := ⟨RJ6, "rotateRight", "(II)I"⟩
def RJ9 : String := "java/lang/Math"
def TJ9 : u_T := fun k => match k with
  | _ => ("", "", "", false)
def tyJ9 : Nat → FieldType := fun k => match k with
  | _ => .int
theorem nmJ9 : ∀ a, a < 0 → ∀ b, b < 0 → a ≠ b → (TJ9 a).2.1 ≠ (TJ9 b).2.1 := by decide +kernel
theorem tyJ9_ok : ∀ k, k < 0 → parseFieldDescriptor (TJ9 k).2.2.1 = some (tyJ9 k) := by decide +kernel
abbrev cJ9_multiplyHigh_f86c9 : ByteArray := prog_14_method_45_code
def yJ9_multiplyHigh_f86c9 : MethodName := ⟨RJ9, "multiplyHigh", "(JJ)J"⟩
abbrev cJ9_min_7cf53 : ByteArray := prog_14_method_69_code
def yJ9_min_7cf53 : MethodName := ⟨RJ9, "min", "(II)I"⟩
abbrev cJ9_min_f86c9 : ByteArray := prog_14_method_70_code
def yJ9_min_f86c9 : MethodName := ⟨RJ9, "min", "(JJ)J"⟩
def RJ10 : String := "java/lang/System"
def TJ10 : u_T := fun k => match k with
  | _ => ("", "", "", false)
def tyJ10 : Nat → FieldType := fun k => match k with
  | _ => .int
theorem nmJ10 : ∀ a, a < 0 → ∀ b, b < 0 → a ≠ b → (TJ10 a).2.1 ≠ (TJ10 b).2.1 := by decide +kernel
theorem tyJ10_ok : ∀ k, k < 0 → parseFieldDescriptor (TJ10 k).2.2.1 = some (tyJ10 k) := by decide +kernel
def RJ7 : String := "java/util/Arrays"
def TJ7 : u_T := fun k => match k with
  | _ => ("", "", "", false)
def tyJ7 : Nat → FieldType := fun k => match k with
  | _ => .int
theorem nmJ7 : ∀ a, a < 0 → ∀ b, b < 0 → a ≠ b → (TJ7 a).2.1 ≠ (TJ7 b).2.1 := by decide +kernel
theorem tyJ7_ok : ∀ k, k < 0 → parseFieldDescriptor (TJ7 k).2.2.1 = some (tyJ7 k) := by decide +kernel
abbrev cJ7_fill_53178 : ByteArray := prog_16_method_103_code
def yJ7_fill_53178 : MethodName := ⟨RJ7, "fill", "([II)V"⟩
def RL : String := "PlainSealLaw"
abbrev cL_law : ByteArray := code
def yL_law : MethodName := ⟨RL, "law", "([I)Z"⟩
abbrev classes : List vw_C := [(RX0, TX0, 2), (RX1, TX1, 3), (RX2, TX2, 4), (RX3, TX3, 3), (RX5, TX5, 1), (RX6, TX6, 6), (RX7, TX7, 7), (RX8, TX8, 5), (RX9, TX9, 2), (RX10, TX10, 28)]
def gx_TB : List Cond := lw_tbl.filter goodWord
theorem gx_TBgood (w : Cond) (h : w ∈ gx_TB) : goodWord w = true := (List.mem_filter.mp h).2
theorem iwX0 : ∀ w ∈ u_ws RX0 TX0 2, w ∈ gx_TB := by decide +kernel
theorem iwX1 : ∀ w ∈ u_ws RX1 TX1 3, w ∈ gx_TB := by decide +kernel
theorem iwX2 : ∀ w ∈ u_ws RX2 TX2 4, w ∈ gx_TB := by decide +kernel
theorem iwX3 : ∀ w ∈ u_ws RX3 TX3 3, w ∈ gx_TB := by decide +kernel
theorem iwX5 : ∀ w ∈ u_ws RX5 TX5 1, w ∈ gx_TB := by decide +kernel
theorem iwX6 : ∀ w ∈ u_ws RX6 TX6 6, w ∈ gx_TB := by decide +kernel
theorem iwX7 : ∀ w ∈ u_ws RX7 TX7 7, w ∈ gx_TB := by decide +kernel
theorem iwX8 : ∀ w ∈ u_ws RX8 TX8 5, w ∈ gx_TB := by decide +kernel
theorem iwX9 : ∀ w ∈ u_ws RX9 TX9 2, w ∈ gx_TB := by decide +kernel
theorem iwX10 : ∀ w ∈ u_ws RX10 TX10 28, w ∈ gx_TB := by decide +kernel
def gx_ty (ci : Nat) : Nat → FieldType := match ci with
  | 0 => tyX0
  | 1 => tyX1
  | 2 => tyX2
  | 3 => tyX3
  | 4 => tyX5
  | 5 => tyX6
  | 6 => tyX7
  | 7 => tyX8
  | 8 => tyX9
  | _ => tyX10
/-- what the cells are: 0 the PlainSeal, 1 its tape, 2 its out, 3 its mail, 4 the mail's text, 5 its tagList, 6 that one's text, 7 its sha256, 8 its modular; 9 to 12 the rows held by 1, 2, 4, 6; 13 places; 14 state, 15 mixed, 16 schedule; 17 base, 18 modulus, 19 rest, 20 product; 21 the model, 22 its plain, 23 told, 24 its text, 25 draft, 26 its text, 27 its hash; 28 tape, 29 out, 30 mail, 31 begin, 32 colon, 33 stop, 34 to 36 the new ones, 37 plain's row, 38 the row of 24, 39 to 41 from, equals, to of 23, 42 the row of 26, 43 to 45 of 25, 46 made, 47 first, 48 h, 49 w, 50 k, 51 block, 52 modulus, 53 power, 54 number, 55 product, 56 square, 57 hashed, 58 first, 59 second; 60 FIRST_STATE, 61 ROUND_WORDS -/
def gx_kinds : List ((Nat × FieldType) ⊕ Nat) := [.inr 5, .inr 0, .inr 0, .inr 1, .inr 0, .inr 4, .inr 0, .inr 3, .inr 2, .inl (2000, .byte), .inl (2000, .byte), .inl (2000, .byte), .inl (2000, .byte), .inl (21, .int), .inl (8, .int), .inl (8, .int), .inl (64, .int), .inl (32, .int), .inl (32, .int), .inl (32, .int), .inl (64, .int), .inr 9, .inr 8, .inr 7, .inr 8, .inr 7, .inr 8, .inr 6, .inl (2000, .byte), .inl (4000, .byte), .inl (2000, .byte), .inl (21, .int), .inl (21, .int), .inl (21, .int), .inl (21, .int), .inl (21, .int), .inl (21, .int), .inl (4000, .byte), .inl (2000, .byte), .inl (40, .int), .inl (40, .int), .inl (40, .int), .inl (2000, .byte), .inl (40, .int), .inl (40, .int), .inl (40, .int), .inl (900, .byte), .inl (8, .int), .inl (8, .int), .inl (64, .int), .inl (64, .int), .inl (64, .byte), .inl (33, .int), .inl (33, .int), .inl (33, .int), .inl (66, .int), .inl (33, .int), .inl (32, .byte), .inl (64, .byte), .inl (64, .byte), .inl (8, .int), .inl (64, .int)]
def gx_kd (i : Nat) : (Nat × FieldType) ⊕ Nat := gx_kinds.getD i (.inr 99)
def gx_Nw : Nat := 60
def gx_N : Nat := 62
theorem gx_NwN : gx_Nw ≤ gx_N := by decide
def gx_stat : List (String × String × String × Nat) := [("PlainSeal$Sha256", "FIRST_STATE", "[I", 60), ("PlainSeal$Sha256", "ROUND_WORDS", "[I", 61)]
def gx_nest : List (String × Nat × MethodName × String) := [(RX1, 57, yX6_isSmallLetter, RX6), (RX1, 60, yX6_isGreatLetter, RX6), (RX1, 63, yX6_isDigit, RX6), (RX1, 66, yX6_isWhite, RX6), (RX1, 73, yX6_small, RX6), (RX0, 34, yX6_isWhite, RX6), (RX5, 53, yX6_isSmallLetter, RX6), (RX4, 30, yX6_isGreatLetter, RX6), (RX4, 34, yX6_isSmallLetter, RX6), (RX4, 37, yX6_isDigit, RX6), (RX8, 41, yX10_isSmall, RX10), (RX8, 45, yX10_in, RX10)]
theorem mn_0 : (RX1, 57, yX6_isSmallLetter, RX6) ∈ gx_nest := List.mem_of_getElem? (i := 0) rfl
theorem mn_1 : (RX1, 60, yX6_isGreatLetter, RX6) ∈ gx_nest := List.mem_of_getElem? (i := 1) rfl
theorem mn_2 : (RX1, 63, yX6_isDigit, RX6) ∈ gx_nest := List.mem_of_getElem? (i := 2) rfl
theorem mn_3 : (RX1, 66, yX6_isWhite, RX6) ∈ gx_nest := List.mem_of_getElem? (i := 3) rfl
theorem mn_4 : (RX1, 73, yX6_small, RX6) ∈ gx_nest := List.mem_of_getElem? (i := 4) rfl
theorem mn_5 : (RX0, 34, yX6_isWhite, RX6) ∈ gx_nest := List.mem_of_getElem? (i := 5) rfl
theorem mn_6 : (RX5, 53, yX6_isSmallLetter, RX6) ∈ gx_nest := List.mem_of_getElem? (i := 6) rfl
theorem mn_7 : (RX4, 30, yX6_isGreatLetter, RX6) ∈ gx_nest := List.mem_of_getElem? (i := 7) rfl
theorem mn_8 : (RX4, 34, yX6_isSmallLetter, RX6) ∈ gx_nest := List.mem_of_getElem? (i := 8) rfl
theorem mn_9 : (RX4, 37, yX6_isDigit, RX6) ∈ gx_nest := List.mem_of_getElem? (i := 9) rfl
theorem mn_10 : (RX8, 41, yX10_isSmall, RX10) ∈ gx_nest := List.mem_of_getElem? (i := 10) rfl
theorem mn_11 : (RX8, 45, yX10_in, RX10) ∈ gx_nest := List.mem_of_getElem? (i := 11) rfl
