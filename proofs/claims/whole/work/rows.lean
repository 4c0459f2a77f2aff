section
-- ===== PART A: goes FIRST, ahead of the names: the tables' words, and 'selects' of the private methods out of them =====
/-- a private method of a class that the tables say can be made, by its rows of tables_1 -/
def lw_okq (q : MethodName × Nat) : Prop := (q.1.cls ≠ "java/lang/invoke/MethodHandle" ∧ q.1.cls ≠ "java/lang/invoke/VarHandle") ∧ Cond.instantiable q.1.cls q.2 ∈ tables_1 ∧ Cond.privateMethod q.1 ∈ tables_1 ∧ Cond.instanceMethod q.1 ∈ tables_1
theorem lw_p0 : lw_okq (⟨"PlainSeal$Mail", "addRelaxedValue", "(IILPlainSeal$Bytes;)V"⟩, 3) := ⟨⟨by decide +kernel, by decide +kernel⟩, List.mem_of_getElem? (i := 39) (by decide +kernel), List.mem_of_getElem? (i := 236) (by decide +kernel), List.mem_of_getElem? (i := 237) (by decide +kernel)⟩
theorem lw_p1 : lw_okq (⟨"PlainSeal$Mail", "isNamed", "(ILPlainSeal$Bytes;)Z"⟩, 3) := ⟨⟨by decide +kernel, by decide +kernel⟩, List.mem_of_getElem? (i := 39) (by decide +kernel), List.mem_of_getElem? (i := 253) (by decide +kernel), List.mem_of_getElem? (i := 254) (by decide +kernel)⟩
theorem lw_p2 : lw_okq (⟨"PlainSeal$Sha256", "fillSchedule", "(LPlainSeal$Bytes;IZ)V"⟩, 3) := ⟨⟨by decide +kernel, by decide +kernel⟩, List.mem_of_getElem? (i := 70) (by decide +kernel), List.mem_of_getElem? (i := 341) (by decide +kernel), List.mem_of_getElem? (i := 342) (by decide +kernel)⟩
theorem lw_p3 : lw_okq (⟨"PlainSeal$Sha256", "mixBlock", "()V"⟩, 3) := ⟨⟨by decide +kernel, by decide +kernel⟩, List.mem_of_getElem? (i := 70) (by decide +kernel), List.mem_of_getElem? (i := 355) (by decide +kernel), List.mem_of_getElem? (i := 356) (by decide +kernel)⟩
theorem lw_p4 : lw_okq (⟨"PlainSeal$Sha256", "mixRound", "(I)V"⟩, 3) := ⟨⟨by decide +kernel, by decide +kernel⟩, List.mem_of_getElem? (i := 70) (by decide +kernel), List.mem_of_getElem? (i := 361) (by decide +kernel), List.mem_of_getElem? (i := 362) (by decide +kernel)⟩
theorem lw_p5 : lw_okq (⟨"PlainSeal$Modular", "bringBaseBelowModulus", "()V"⟩, 4) := ⟨⟨by decide +kernel, by decide +kernel⟩, List.mem_of_getElem? (i := 86) (by decide +kernel), List.mem_of_getElem? (i := 388) (by decide +kernel), List.mem_of_getElem? (i := 389) (by decide +kernel)⟩
theorem lw_p6 : lw_okq (⟨"PlainSeal$Modular", "divideProduct", "()V"⟩, 4) := ⟨⟨by decide +kernel, by decide +kernel⟩, List.mem_of_getElem? (i := 86) (by decide +kernel), List.mem_of_getElem? (i := 392) (by decide +kernel), List.mem_of_getElem? (i := 393) (by decide +kernel)⟩
theorem lw_p7 : lw_okq (⟨"PlainSeal$Modular", "guessedDigit", "(I)J"⟩, 4) := ⟨⟨by decide +kernel, by decide +kernel⟩, List.mem_of_getElem? (i := 86) (by decide +kernel), List.mem_of_getElem? (i := 396) (by decide +kernel), List.mem_of_getElem? (i := 397) (by decide +kernel)⟩
theorem lw_p8 : lw_okq (⟨"PlainSeal$Modular", "takeAway", "(IJ)V"⟩, 4) := ⟨⟨by decide +kernel, by decide +kernel⟩, List.mem_of_getElem? (i := 86) (by decide +kernel), List.mem_of_getElem? (i := 405) (by decide +kernel), List.mem_of_getElem? (i := 406) (by decide +kernel)⟩
theorem lw_p9 : lw_okq (⟨"PlainSeal$Modular", "giveBack", "(I)J"⟩, 4) := ⟨⟨by decide +kernel, by decide +kernel⟩, List.mem_of_getElem? (i := 86) (by decide +kernel), List.mem_of_getElem? (i := 409) (by decide +kernel), List.mem_of_getElem? (i := 410) (by decide +kernel)⟩
theorem lw_p10 : lw_okq (⟨"PlainSeal$Modular", "multiplyRestBy", "([I)V"⟩, 4) := ⟨⟨by decide +kernel, by decide +kernel⟩, List.mem_of_getElem? (i := 86) (by decide +kernel), List.mem_of_getElem? (i := 413) (by decide +kernel), List.mem_of_getElem? (i := 414) (by decide +kernel)⟩
theorem lw_p11 : lw_okq (⟨"PlainSealModel", "four", "(I)V"⟩, 28) := ⟨⟨by decide +kernel, by decide +kernel⟩, List.mem_of_getElem? (i := 428) (by decide +kernel), List.mem_of_getElem? (i := 611) (by decide +kernel), List.mem_of_getElem? (i := 612) (by decide +kernel)⟩
theorem lw_p12 : lw_okq (⟨"PlainSealModel", "used", "()I"⟩, 28) := ⟨⟨by decide +kernel, by decide +kernel⟩, List.mem_of_getElem? (i := 428) (by decide +kernel), List.mem_of_getElem? (i := 626) (by decide +kernel), List.mem_of_getElem? (i := 627) (by decide +kernel)⟩
theorem lw_p13 : lw_okq (⟨"PlainSealModel", "bodyPlain", "(Z)V"⟩, 28) := ⟨⟨by decide +kernel, by decide +kernel⟩, List.mem_of_getElem? (i := 428) (by decide +kernel), List.mem_of_getElem? (i := 654) (by decide +kernel), List.mem_of_getElem? (i := 655) (by decide +kernel)⟩
theorem lw_p14 : lw_okq (⟨"PlainSealModel", "tell", "(LPlainSealModel$Text;)I"⟩, 28) := ⟨⟨by decide +kernel, by decide +kernel⟩, List.mem_of_getElem? (i := 428) (by decide +kernel), List.mem_of_getElem? (i := 662) (by decide +kernel), List.mem_of_getElem? (i := 663) (by decide +kernel)⟩
theorem lw_p15 : lw_okq (⟨"PlainSealModel", "fieldPlain", "(IZII)V"⟩, 28) := ⟨⟨by decide +kernel, by decide +kernel⟩, List.mem_of_getElem? (i := 428) (by decide +kernel), List.mem_of_getElem? (i := 670) (by decide +kernel), List.mem_of_getElem? (i := 671) (by decide +kernel)⟩
def lw_privs_1 : List (MethodName × Nat) := [(⟨"PlainSeal$Mail", "addRelaxedValue", "(IILPlainSeal$Bytes;)V"⟩, 3), (⟨"PlainSeal$Mail", "isNamed", "(ILPlainSeal$Bytes;)Z"⟩, 3), (⟨"PlainSeal$Sha256", "fillSchedule", "(LPlainSeal$Bytes;IZ)V"⟩, 3), (⟨"PlainSeal$Sha256", "mixBlock", "()V"⟩, 3), (⟨"PlainSeal$Sha256", "mixRound", "(I)V"⟩, 3), (⟨"PlainSeal$Modular", "bringBaseBelowModulus", "()V"⟩, 4), (⟨"PlainSeal$Modular", "divideProduct", "()V"⟩, 4), (⟨"PlainSeal$Modular", "guessedDigit", "(I)J"⟩, 4), (⟨"PlainSeal$Modular", "takeAway", "(IJ)V"⟩, 4), (⟨"PlainSeal$Modular", "giveBack", "(I)J"⟩, 4), (⟨"PlainSeal$Modular", "multiplyRestBy", "([I)V"⟩, 4), (⟨"PlainSealModel", "four", "(I)V"⟩, 28), (⟨"PlainSealModel", "used", "()I"⟩, 28), (⟨"PlainSealModel", "bodyPlain", "(Z)V"⟩, 28), (⟨"PlainSealModel", "tell", "(LPlainSealModel$Text;)I"⟩, 28), (⟨"PlainSealModel", "fieldPlain", "(IZII)V"⟩, 28)]
theorem lw_r1 : ∀ q ∈ lw_privs_1, lw_okq q := List.forall_mem_cons.mpr ⟨lw_p0, List.forall_mem_cons.mpr ⟨lw_p1, List.forall_mem_cons.mpr ⟨lw_p2, List.forall_mem_cons.mpr ⟨lw_p3, List.forall_mem_cons.mpr ⟨lw_p4, List.forall_mem_cons.mpr ⟨lw_p5, List.forall_mem_cons.mpr ⟨lw_p6, List.forall_mem_cons.mpr ⟨lw_p7, List.forall_mem_cons.mpr ⟨lw_p8, List.forall_mem_cons.mpr ⟨lw_p9, List.forall_mem_cons.mpr ⟨lw_p10, List.forall_mem_cons.mpr ⟨lw_p11, List.forall_mem_cons.mpr ⟨lw_p12, List.forall_mem_cons.mpr ⟨lw_p13, List.forall_mem_cons.mpr ⟨lw_p14, List.forall_mem_cons.mpr ⟨lw_p15, fun _ h => absurd h List.not_mem_nil⟩⟩⟩⟩⟩⟩⟩⟩⟩⟩⟩⟩⟩⟩⟩⟩
theorem lw_p16 : lw_okq (⟨"PlainSealModel", "valueEnd", "(I)I"⟩, 28) := ⟨⟨by decide +kernel, by decide +kernel⟩, List.mem_of_getElem? (i := 428) (by decide +kernel), List.mem_of_getElem? (i := 674) (by decide +kernel), List.mem_of_getElem? (i := 675) (by decide +kernel)⟩
theorem lw_p17 : lw_okq (⟨"PlainSealModel$Tags", "isSame", "(III)Z"⟩, 5) := ⟨⟨by decide +kernel, by decide +kernel⟩, List.mem_of_getElem? (i := 451) (by decide +kernel), List.mem_of_getElem? (i := 695) (by decide +kernel), List.mem_of_getElem? (i := 696) (by decide +kernel)⟩
theorem lw_p18 : lw_okq (⟨"PlainSealModel", "digest", "([BI[B)V"⟩, 28) := ⟨⟨by decide +kernel, by decide +kernel⟩, List.mem_of_getElem? (i := 428) (by decide +kernel), List.mem_of_getElem? (i := 719) (by decide +kernel), List.mem_of_getElem? (i := 720) (by decide +kernel)⟩
theorem lw_p19 : lw_okq (⟨"PlainSealModel$Hash", "round", "()V"⟩, 7) := ⟨⟨by decide +kernel, by decide +kernel⟩, List.mem_of_getElem? (i := 479) (by decide +kernel), List.mem_of_getElem? (i := 736) (by decide +kernel), List.mem_of_getElem? (i := 737) (by decide +kernel)⟩
theorem lw_p20 : lw_okq (⟨"PlainSealModel", "remainder", "([II[I)V"⟩, 28) := ⟨⟨by decide +kernel, by decide +kernel⟩, List.mem_of_getElem? (i := 428) (by decide +kernel), List.mem_of_getElem? (i := 762) (by decide +kernel), List.mem_of_getElem? (i := 763) (by decide +kernel)⟩
theorem lw_p21 : lw_okq (⟨"PlainSealModel", "times", "([I)V"⟩, 28) := ⟨⟨by decide +kernel, by decide +kernel⟩, List.mem_of_getElem? (i := 428) (by decide +kernel), List.mem_of_getElem? (i := 770) (by decide +kernel), List.mem_of_getElem? (i := 771) (by decide +kernel)⟩
def lw_privs_2 : List (MethodName × Nat) := [(⟨"PlainSealModel", "valueEnd", "(I)I"⟩, 28), (⟨"PlainSealModel$Tags", "isSame", "(III)Z"⟩, 5), (⟨"PlainSealModel", "digest", "([BI[B)V"⟩, 28), (⟨"PlainSealModel$Hash", "round", "()V"⟩, 7), (⟨"PlainSealModel", "remainder", "([II[I)V"⟩, 28), (⟨"PlainSealModel", "times", "([I)V"⟩, 28)]
theorem lw_r2 : ∀ q ∈ lw_privs_2, lw_okq q := List.forall_mem_cons.mpr ⟨lw_p16, List.forall_mem_cons.mpr ⟨lw_p17, List.forall_mem_cons.mpr ⟨lw_p18, List.forall_mem_cons.mpr ⟨lw_p19, List.forall_mem_cons.mpr ⟨lw_p20, List.forall_mem_cons.mpr ⟨lw_p21, fun _ h => absurd h List.not_mem_nil⟩⟩⟩⟩⟩⟩
def lw_privs : List (MethodName × Nat) := lw_privs_1 ++ (lw_privs_2)
def lw_tbl : List Cond := k2_sels lw_privs ++ tables_1
theorem lw_privs_ok : ∀ q ∈ lw_privs, lw_okq q := by
  show ∀ q ∈ lw_privs_1 ++ (lw_privs_2), lw_okq q
  exact List.forall_mem_append.mpr ⟨lw_r1, lw_r2⟩
-- names: classes, fields, methods
def RX0 : String := "PlainSeal$Bytes"
def TX0 : u_T := fun k => match k with
  | 0 => ("PlainSeal$Bytes", "held", "[B", true)
  | _ => ("PlainSeal$Bytes", "size", "I", false)
def tyX0 : Nat → FieldType := fun k => match k with
  | 0 => .array .byte
  | _ => .int
theorem nmX0 : ∀ a, a < 2 → ∀ b, b < 2 → a ≠ b → (TX0 a).2.1 ≠ (TX0 b).2.1 := by decide +kernel
theorem tyX0_ok : ∀ k, k < 2 → parseFieldDescriptor (TX0 k).2.2.1 = some (tyX0 k) := by decide +kernel
abbrev cX0_init : ByteArray := prog_2_method_1_code
def yX0_init : MethodName := ⟨RX0, "<init>", "()V"⟩
abbrev cX0_size : ByteArray := prog_2_method_2_code
def yX0_size : MethodName := ⟨RX0, "size", "()I"⟩
abbrev cX0_at : ByteArray := prog_2_method_3_code
def yX0_at : MethodName := ⟨RX0, "at", "(I)I"⟩
abbrev cX0_clear : ByteArray := prog_2_method_4_code
def yX0_clear : MethodName := ⟨RX0, "clear", "()V"⟩
abbrev cX0_cutTo : ByteArray := prog_2_method_5_code
def yX0_cutTo : MethodName := ⟨RX0, "cutTo", "(I)V"⟩
abbrev cX0_add : ByteArray := prog_2_method_6_code
def yX0_add : MethodName := ⟨RX0, "add", "(I)V"⟩
abbrev cX0_addTimes : ByteArray := prog_2_method_7_code
def yX0_addTimes : MethodName := ⟨RX0, "addTimes", "(II)V"⟩
abbrev cX0_addWord : ByteArray := prog_2_method_8_code
def yX0_addWord : MethodName := ⟨RX0, "addWord", "(I)V"⟩
abbrev cX0_addPart : ByteArray := prog_2_method_9_code
def yX0_addPart : MethodName := ⟨RX0, "addPart", "(LPlainSeal$Bytes;II)V"⟩
abbrev cX0_become : ByteArray := prog_2_method_10_code
def yX0_become : MethodName := ⟨RX0, "become", "(LPlainSeal$Bytes;)V"⟩
abbrev cX0_find : ByteArray := prog_2_method_11_code
def yX0_find : MethodName := ⟨RX0, "find", "(II)I"⟩
abbrev cX0_dropWhiteAndNewlines : ByteArray := prog_2_method_12_code
def yX0_dropWhiteAndNewlines : MethodName := ⟨RX0, "dropWhiteAndNewlines", "()V"⟩
def RX1 : String := "PlainSeal$Mail"
def TX1 : u_T := fun k => match k with
  | 0 => ("PlainSeal$Mail", "text", "LPlainSeal$Bytes;", true)
  | 1 => ("PlainSeal$Mail", "places", "[I", true)
  | _ => ("PlainSeal$Mail", "fields", "I", false)
def tyX1 : Nat → FieldType := fun k => match k with
  | 0 => .object "PlainSeal$Bytes"
  | 1 => .array .int
  | _ => .int
theorem nmX1 : ∀ a, a < 3 → ∀ b, b < 3 → a ≠ b → (TX1 a).2.1 ≠ (TX1 b).2.1 := by decide +kernel
theorem tyX1_ok : ∀ k, k < 3 → parseFieldDescriptor (TX1 k).2.2.1 = some (tyX1 k) := by decide +kernel
abbrev cX1_init : ByteArray := prog_3_method_1_code
def yX1_init : MethodName := ⟨RX1, "<init>", "()V"⟩
abbrev cX1_isMissing : ByteArray := prog_3_method_2_code
def yX1_isMissing : MethodName := ⟨RX1, "isMissing", "()Z"⟩
abbrev cX1_hasField : ByteArray := prog_3_method_3_code
def yX1_hasField : MethodName := ⟨RX1, "hasField", "(I)Z"⟩
abbrev cX1_read : ByteArray := prog_3_method_4_code
def yX1_read : MethodName := ⟨RX1, "read", "(LPlainSeal$Bytes;)I"⟩
abbrev cX1_countFields : ByteArray := prog_3_method_5_code
def yX1_countFields : MethodName := ⟨RX1, "countFields", "(LPlainSeal$Bytes;)I"⟩
abbrev cX1_fieldsEndAt : ByteArray := prog_3_method_6_code
def yX1_fieldsEndAt : MethodName := ⟨RX1, "fieldsEndAt", "(LPlainSeal$Bytes;I)Z"⟩
abbrev cX1_nameLength : ByteArray := prog_3_method_7_code
def yX1_nameLength : MethodName := ⟨RX1, "nameLength", "(LPlainSeal$Bytes;I)I"⟩
abbrev cX1_isOfName : ByteArray := prog_3_method_8_code
def yX1_isOfName : MethodName := ⟨RX1, "isOfName", "(I)Z"⟩
abbrev cX1_fieldStop : ByteArray := prog_3_method_9_code
def yX1_fieldStop : MethodName := ⟨RX1, "fieldStop", "(LPlainSeal$Bytes;I)I"⟩
abbrev cX1_countNamed : ByteArray := prog_3_method_10_code
def yX1_countNamed : MethodName := ⟨RX1, "countNamed", "(LPlainSeal$Bytes;)I"⟩
abbrev cX1_isNamed : ByteArray := prog_3_method_11_code
def yX1_isNamed : MethodName := ⟨RX1, "isNamed", "(ILPlainSeal$Bytes;)Z"⟩
abbrev cX1_writeBody : ByteArray := prog_3_method_12_code
def yX1_writeBody : MethodName := ⟨RX1, "writeBody", "(ZLPlainSeal$Bytes;)V"⟩
abbrev cX1_writeSimpleField : ByteArray := prog_3_method_13_code
def yX1_writeSimpleField : MethodName := ⟨RX1, "writeSimpleField", "(ILPlainSeal$Bytes;)V"⟩
abbrev cX1_writeRelaxedField : ByteArray := prog_3_method_14_code
def yX1_writeRelaxedField : MethodName := ⟨RX1, "writeRelaxedField", "(ILPlainSeal$Bytes;)V"⟩
abbrev cX1_addRelaxedValue : ByteArray := prog_3_method_15_code
def yX1_addRelaxedValue : MethodName := ⟨RX1, "addRelaxedValue", "(IILPlainSeal$Bytes;)V"⟩
def RX2 : String := "PlainSeal$Modular"
def TX2 : u_T := fun k => match k with
  | 0 => ("PlainSeal$Modular", "base", "[I", true)
  | 1 => ("PlainSeal$Modular", "modulus", "[I", true)
  | 2 => ("PlainSeal$Modular", "rest", "[I", true)
  | _ => ("PlainSeal$Modular", "product", "[I", true)
def tyX2 : Nat → FieldType := fun k => match k with
  | 0 => .array .int
  | 1 => .array .int
  | 2 => .array .int
  | _ => .array .int
theorem nmX2 : ∀ a, a < 4 → ∀ b, b < 4 → a ≠ b → (TX2 a).2.1 ≠ (TX2 b).2.1 := by decide +kernel
theorem tyX2_ok : ∀ k, k < 4 → parseFieldDescriptor (TX2 k).2.2.1 = some (tyX2 k) := by decide +kernel
abbrev cX2_init : ByteArray := prog_4_method_1_code
def yX2_init : MethodName := ⟨RX2, "<init>", "()V"⟩
abbrev cX2_canTake : ByteArray := prog_4_method_2_code
def yX2_canTake : MethodName := ⟨RX2, "canTake", "(LPlainSeal$Bytes;)Z"⟩
abbrev cX2_take : ByteArray := prog_4_method_3_code
def yX2_take : MethodName := ⟨RX2, "take", "(LPlainSeal$Bytes;)V"⟩
abbrev cX2_takeNumber : ByteArray := prog_4_method_4_code
def yX2_takeNumber : MethodName := ⟨RX2, "takeNumber", "(LPlainSeal$Bytes;I[I)V"⟩
abbrev cX2_write : ByteArray := prog_4_method_5_code
def yX2_write : MethodName := ⟨RX2, "write", "(LPlainSeal$Bytes;)V"⟩
abbrev cX2_raise : ByteArray := prog_4_method_6_code
def yX2_raise : MethodName := ⟨RX2, "raise", "()V"⟩
abbrev cX2_bringBaseBelowModulus : ByteArray := prog_4_method_7_code
def yX2_bringBaseBelowModulus : MethodName := ⟨RX2, "bringBaseBelowModulus", "()V"⟩
abbrev cX2_multiplyRestBy : ByteArray := prog_4_method_8_code
def yX2_multiplyRestBy : MethodName := ⟨RX2, "multiplyRestBy", "([I)V"⟩
abbrev cX2_divideProduct : ByteArray := prog_4_method_9_code
def yX2_divideProduct : MethodName := ⟨RX2, "divideProduct", "()V"⟩
abbrev cX2_guessedDigit : ByteArray := prog_4_method_10_code
def yX2_guessedDigit : MethodName := ⟨RX2, "guessedDigit", "(I)J"⟩
abbrev cX2_takeAway : ByteArray := prog_4_method_11_code
def yX2_takeAway : MethodName := ⟨RX2, "takeAway", "(IJ)V"⟩
abbrev cX2_giveBack : ByteArray := prog_4_method_12_code
def yX2_giveBack : MethodName := ⟨RX2, "giveBack", "(I)J"⟩
def RX3 : String := "PlainSeal$Sha256"
def TX3 : u_T := fun k => match k with
  | 0 => ("PlainSeal$Sha256", "state", "[I", true)
  | 1 => ("PlainSeal$Sha256", "mixed", "[I", true)
  | _ => ("PlainSeal$Sha256", "schedule", "[I", true)
def tyX3 : Nat → FieldType := fun k => match k with
  | 0 => .array .int
  | 1 => .array .int
  | _ => .array .int
theorem nmX3 : ∀ a, a < 3 → ∀ b, b < 3 → a ≠ b → (TX3 a).2.1 ≠ (TX3 b).2.1 := by decide +kernel
theorem tyX3_ok : ∀ k, k < 3 → parseFieldDescriptor (TX3 k).2.2.1 = some (tyX3 k) := by decide +kernel
abbrev cX3_init : ByteArray := prog_5_method_1_code
def yX3_init : MethodName := ⟨RX3, "<init>", "()V"⟩
abbrev cX3_write : ByteArray := prog_5_method_2_code
def yX3_write : MethodName := ⟨RX3, "write", "(LPlainSeal$Bytes;LPlainSeal$Bytes;)V"⟩
abbrev cX3_fillSchedule : ByteArray := prog_5_method_3_code
def yX3_fillSchedule : MethodName := ⟨RX3, "fillSchedule", "(LPlainSeal$Bytes;IZ)V"⟩
abbrev cX3_paddedWord : ByteArray := prog_5_method_4_code
def yX3_paddedWord : MethodName := ⟨RX3, "paddedWord", "(LPlainSeal$Bytes;I)I"⟩
abbrev cX3_paddedByte : ByteArray := prog_5_method_5_code
def yX3_paddedByte : MethodName := ⟨RX3, "paddedByte", "(LPlainSeal$Bytes;I)I"⟩
abbrev cX3_turned : ByteArray := prog_5_method_6_code
def yX3_turned : MethodName := ⟨RX3, "turned", "(II)I"⟩
abbrev cX3_mixBlock : ByteArray := prog_5_method_7_code
def yX3_mixBlock : MethodName := ⟨RX3, "mixBlock", "()V"⟩
abbrev cX3_mixRound : ByteArray := prog_5_method_8_code
def yX3_mixRound : MethodName := ⟨RX3, "mixRound", "(I)V"⟩
def RX4 : String := "PlainSeal$SixBits"
def TX4 : u_T := fun k => match k with
  | _ => ("", "", "", false)
def tyX4 : Nat → FieldType := fun k => match k with
  | _ => .int
theorem nmX4 : ∀ a, a < 0 → ∀ b, b < 0 → a ≠ b → (TX4 a).2.1 ≠ (TX4 b).2.1 := by decide +kernel
theorem tyX4_ok : ∀ k, k < 0 → parseFieldDescriptor (TX4 k).2.2.1 = some (tyX4 k) := by decide +kernel
abbrev cX4_areOf : ByteArray := prog_6_method_2_code
def yX4_areOf : MethodName := ⟨RX4, "areOf", "(ILPlainSeal$Bytes;)Z"⟩
abbrev cX4_lettersFor : ByteArray := prog_6_method_3_code
def yX4_lettersFor : MethodName := ⟨RX4, "lettersFor", "(I)I"⟩
abbrev cX4_bitsOver : ByteArray := prog_6_method_4_code
def yX4_bitsOver : MethodName := ⟨RX4, "bitsOver", "(I)I"⟩
abbrev cX4_sixBits : ByteArray := prog_6_method_5_code
def yX4_sixBits : MethodName := ⟨RX4, "sixBits", "(I)I"⟩
abbrev cX4_write : ByteArray := prog_6_method_6_code
def yX4_write : MethodName := ⟨RX4, "write", "(ILPlainSeal$Bytes;LPlainSeal$Bytes;)V"⟩
def RX5 : String := "PlainSeal$TagList"
def TX5 : u_T := fun k => match k with
  | _ => ("PlainSeal$TagList", "text", "LPlainSeal$Bytes;", true)
def tyX5 : Nat → FieldType := fun k => match k with
  | _ => .object "PlainSeal$Bytes"
theorem nmX5 : ∀ a, a < 1 → ∀ b, b < 1 → a ≠ b → (TX5 a).2.1 ≠ (TX5 b).2.1 := by decide +kernel
theorem tyX5_ok : ∀ k, k < 1 → parseFieldDescriptor (TX5 k).2.2.1 = some (tyX5 k) := by decide +kernel
abbrev cX5_init : ByteArray := prog_7_method_1_code
def yX5_init : MethodName := ⟨RX5, "<init>", "()V"⟩
abbrev cX5_read : ByteArray := prog_7_method_2_code
def yX5_read : MethodName := ⟨RX5, "read", "(LPlainSeal$Bytes;)I"⟩
abbrev cX5_countTags : ByteArray := prog_7_method_3_code
def yX5_countTags : MethodName := ⟨RX5, "countTags", "(LPlainSeal$Bytes;)I"⟩
abbrev cX5_lettersLength : ByteArray := prog_7_method_4_code
def yX5_lettersLength : MethodName := ⟨RX5, "lettersLength", "(LPlainSeal$Bytes;I)I"⟩
abbrev cX5_valueOf : ByteArray := prog_7_method_5_code
def yX5_valueOf : MethodName := ⟨RX5, "valueOf", "(LPlainSeal$Bytes;ILPlainSeal$Bytes;II)I"⟩
abbrev cX5_isSame : ByteArray := prog_7_method_6_code
def yX5_isSame : MethodName := ⟨RX5, "isSame", "(LPlainSeal$Bytes;ILPlainSeal$Bytes;II)Z"⟩
abbrev cX5_writeValue : ByteArray := prog_7_method_7_code
def yX5_writeValue : MethodName := ⟨RX5, "writeValue", "(LPlainSeal$Bytes;LPlainSeal$Bytes;)I"⟩
def RX6 : String := "PlainSeal"
def TX6 : u_T := fun k => match k with
  | 0 => ("PlainSeal", "tape", "LPlainSeal$Bytes;", true)
  | 1 => ("PlainSeal", "out", "LPlainSeal$Bytes;", true)
  | 2 => ("PlainSeal", "mail", "LPlainSeal$Mail;", true)
  | 3 => ("PlainSeal", "tagList", "LPlainSeal$TagList;", true)
  | 4 => ("PlainSeal", "sha256", "LPlainSeal$Sha256;", true)
  | _ => ("PlainSeal", "modular", "LPlainSeal$Modular;", true)
def tyX6 : Nat → FieldType := fun k => match k with
  | 0 => .object "PlainSeal$Bytes"
  | 1 => .object "PlainSeal$Bytes"
  | 2 => .object "PlainSeal$Mail"
  | 3 => .object "PlainSeal$TagList"
  | 4 => .object "PlainSeal$Sha256"
  | _ => .object "PlainSeal$Modular"
theorem nmX6 : ∀ a, a < 6 → ∀ b, b < 6 → a ≠ b → (TX6 a).2.1 ≠ (TX6 b).2.1 := by decide +kernel
theorem tyX6_ok : ∀ k, k < 6 → parseFieldDescriptor (TX6 k).2.2.1 = some (tyX6 k) := by decide +kernel
abbrev cX6_init : ByteArray := prog_1_method_1_code
def yX6_init : MethodName := ⟨RX6, "<init>", "()V"⟩
abbrev cX6_feed : ByteArray := prog_1_method_2_code
def yX6_feed : MethodName := ⟨RX6, "feed", "(IIIII)I"⟩
abbrev cX6_end : ByteArray := prog_1_method_3_code
def yX6_end : MethodName := ⟨RX6, "end", "(I)I"⟩
abbrev cX6_message : ByteArray := prog_1_method_4_code
def yX6_message : MethodName := ⟨RX6, "message", "()I"⟩
abbrev cX6_plainBody : ByteArray := prog_1_method_5_code
def yX6_plainBody : MethodName := ⟨RX6, "plainBody", "(Z)I"⟩
abbrev cX6_plainField : ByteArray := prog_1_method_6_code
def yX6_plainField : MethodName := ⟨RX6, "plainField", "(IZ)I"⟩
abbrev cX6_named : ByteArray := prog_1_method_7_code
def yX6_named : MethodName := ⟨RX6, "named", "()I"⟩
abbrev cX6_tags : ByteArray := prog_1_method_8_code
def yX6_tags : MethodName := ⟨RX6, "tags", "()I"⟩
abbrev cX6_tag : ByteArray := prog_1_method_9_code
def yX6_tag : MethodName := ⟨RX6, "tag", "()I"⟩
abbrev cX6_decode : ByteArray := prog_1_method_10_code
def yX6_decode : MethodName := ⟨RX6, "decode", "(I)I"⟩
abbrev cX6_digest : ByteArray := prog_1_method_11_code
def yX6_digest : MethodName := ⟨RX6, "digest", "()I"⟩
abbrev cX6_power : ByteArray := prog_1_method_12_code
def yX6_power : MethodName := ⟨RX6, "power", "()I"⟩
abbrev cX6_octet : ByteArray := prog_1_method_13_code
def yX6_octet : MethodName := ⟨RX6, "octet", "(I)I"⟩
abbrev cX6_isWhite : ByteArray := prog_1_method_14_code
def yX6_isWhite : MethodName := ⟨RX6, "isWhite", "(I)Z"⟩
abbrev cX6_isSmallLetter : ByteArray := prog_1_method_15_code
def yX6_isSmallLetter : MethodName := ⟨RX6, "isSmallLetter", "(I)Z"⟩
abbrev cX6_isGreatLetter : ByteArray := prog_1_method_16_code
def yX6_isGreatLetter : MethodName := ⟨RX6, "isGreatLetter", "(I)Z"⟩
abbrev cX6_isDigit : ByteArray := prog_1_method_17_code
def yX6_isDigit : MethodName := ⟨RX6, "isDigit", "(I)Z"⟩
abbrev cX6_small : ByteArray := prog_1_method_18_code
def yX6_small : MethodName := ⟨RX6, "small", "(I)I"⟩
def RX7 : String := "PlainSealModel$Hash"
def TX7 : u_T := fun k => match k with
  | 0 => ("PlainSealModel$Hash", "first", "[I", true)
  | 1 => ("PlainSealModel$Hash", "h", "[I", true)
  | 2 => ("PlainSealModel$Hash", "w", "[I", true)
  | 3 => ("PlainSealModel$Hash", "k", "[I", true)
  | 4 => ("PlainSealModel$Hash", "block", "[B", true)
  | 5 => ("PlainSealModel$Hash", "many", "I", false)
  | _ => ("PlainSealModel$Hash", "all", "J", false)
def tyX7 : Nat → FieldType := fun k => match k with
  | 0 => .array .int
  | 1 => .array .int
  | 2 => .array .int
  | 3 => .array .int
  | 4 => .array .byte
  | 5 => .int
  | _ => .long
theorem nmX7 : ∀ a, a < 7 → ∀ b, b < 7 → a ≠ b → (TX7 a).2.1 ≠ (TX7 b).2.1 := by decide +kernel
theorem tyX7_ok : ∀ k, k < 7 → parseFieldDescriptor (TX7 k).2.2.1 = some (tyX7 k) := by decide +kernel
abbrev cX7_init : ByteArray := prog_10_method_1_code
def yX7_init : MethodName := ⟨RX7, "<init>", "()V"⟩
abbrev cX7_isPrime : ByteArray := prog_10_method_2_code
def yX7_isPrime : MethodName := ⟨RX7, "isPrime", "(I)Z"⟩
abbrev cX7_rootOf : ByteArray := prog_10_method_3_code
def yX7_rootOf : MethodName := ⟨RX7, "rootOf", "(II)I"⟩
abbrev cX7_isAtMost : ByteArray := prog_10_method_4_code
def yX7_isAtMost : MethodName := ⟨RX7, "isAtMost", "(JII)Z"⟩
abbrev cX7_begin : ByteArray := prog_10_method_5_code
def yX7_begin : MethodName := ⟨RX7, "begin", "()V"⟩
abbrev cX7_one : ByteArray := prog_10_method_6_code
def yX7_one : MethodName := ⟨RX7, "one", "(I)V"⟩
abbrev cX7_add : ByteArray := prog_10_method_7_code
def yX7_add : MethodName := ⟨RX7, "add", "([BII)V"⟩
abbrev cX7_four : ByteArray := prog_10_method_8_code
def yX7_four : MethodName := ⟨RX7, "four", "(I)V"⟩
abbrev cX7_finish : ByteArray := prog_10_method_9_code
def yX7_finish : MethodName := ⟨RX7, "finish", "([BI)V"⟩
abbrev cX7_round : ByteArray := prog_10_method_10_code
def yX7_round : MethodName := ⟨RX7, "round", "()V"⟩
def RX8 : String := "PlainSealModel$Tags"
def TX8 : u_T := fun k => match k with
  | 0 => ("PlainSealModel$Tags", "text", "LPlainSealModel$Text;", true)
  | 1 => ("PlainSealModel$Tags", "from", "[I", true)
  | 2 => ("PlainSealModel$Tags", "equals", "[I", true)
  | 3 => ("PlainSealModel$Tags", "to", "[I", true)
  | _ => ("PlainSealModel$Tags", "many", "I", false)
def tyX8 : Nat → FieldType := fun k => match k with
  | 0 => .object "PlainSealModel$Text"
  | 1 => .array .int
  | 2 => .array .int
  | 3 => .array .int
  | _ => .int
theorem nmX8 : ∀ a, a < 5 → ∀ b, b < 5 → a ≠ b → (TX8 a).2.1 ≠ (TX8 b).2.1 := by decide +kernel
theorem tyX8_ok : ∀ k, k < 5 → parseFieldDescriptor (TX8 k).2.2.1 = some (tyX8 k) := by decide +kernel
abbrev cX8_init : ByteArray := prog_11_method_1_code
def yX8_init : MethodName := ⟨RX8, "<init>", "(I)V"⟩
abbrev cX8_read : ByteArray := prog_11_method_2_code
def yX8_read : MethodName := ⟨RX8, "read", "(I)Z"⟩
abbrev cX8_isSame : ByteArray := prog_11_method_3_code
def yX8_isSame : MethodName := ⟨RX8, "isSame", "(III)Z"⟩
abbrev cX8_find : ByteArray := prog_11_method_4_code
def yX8_find : MethodName := ⟨RX8, "find", "([BI)I"⟩
def RX9 : String := "PlainSealModel$Text"
def TX9 : u_T := fun k => match k with
  | 0 => ("PlainSealModel$Text", "b", "[B", true)
  | _ => ("PlainSealModel$Text", "n", "I", false)
def tyX9 : Nat → FieldType := fun k => match k with
  | 0 => .array .byte
  | _ => .int
theorem nmX9 : ∀ a, a < 2 → ∀ b, b < 2 → a ≠ b → (TX9 a).2.1 ≠ (TX9 b).2.1 := by decide +kernel
theorem tyX9_ok : ∀ k, k < 2 → parseFieldDescriptor (TX9 k).2.2.1 = some (tyX9 k) := by decide +kernel
abbrev cX9_init : ByteArray := prog_12_method_1_code
def yX9_init : MethodName := ⟨RX9, "<init>", "(I)V"⟩
abbrev cX9_add : ByteArray := prog_12_method_2_code
def yX9_add : MethodName := ⟨RX9, "add", "(I)V"⟩
def RX10 : String := "PlainSealModel"
def TX10 : u_T := fun k => match k with
  | 0 => ("PlainSealModel", "tape", "[B", true)
  | 1 => ("PlainSealModel", "tapeMany", "I", false)
  | 2 => ("PlainSealModel", "outMany", "I", false)
  | 3 => ("PlainSealModel", "out", "[B", true)
  | 4 => ("PlainSealModel", "mail", "[B", true)
  | 5 => ("PlainSealModel", "begin", "[I", true)
  | 6 => ("PlainSealModel", "colon", "[I", true)
  | 7 => ("PlainSealModel", "stop", "[I", true)
  | 8 => ("PlainSealModel", "newBegin", "[I", true)
  | 9 => ("PlainSealModel", "newColon", "[I", true)
  | 10 => ("PlainSealModel", "newStop", "[I", true)
  | 11 => ("PlainSealModel", "fields", "I", false)
  | 12 => ("PlainSealModel", "body", "I", false)
  | 13 => ("PlainSealModel", "mailMany", "I", false)
  | 14 => ("PlainSealModel", "mailed", "Z", false)
  | 15 => ("PlainSealModel", "plain", "LPlainSealModel$Text;", true)
  | 16 => ("PlainSealModel", "told", "LPlainSealModel$Tags;", false)
  | 17 => ("PlainSealModel", "draft", "LPlainSealModel$Tags;", false)
  | 18 => ("PlainSealModel", "made", "[B", true)
  | 19 => ("PlainSealModel", "hash", "LPlainSealModel$Hash;", true)
  | 20 => ("PlainSealModel", "modulus", "[I", true)
  | 21 => ("PlainSealModel", "power", "[I", true)
  | 22 => ("PlainSealModel", "number", "[I", true)
  | 23 => ("PlainSealModel", "product", "[I", true)
  | 24 => ("PlainSealModel", "square", "[I", true)
  | 25 => ("PlainSealModel", "hashed", "[B", true)
  | 26 => ("PlainSealModel", "first", "[B", true)
  | _ => ("PlainSealModel", "second", "[B", true)
def tyX10 : Nat → FieldType := fun k => match k with
  | 0 => .array .byte
  | 1 => .int
  | 2 => .int
  | 3 => .array .byte
  | 4 => .array .byte
  | 5 => .array .int
  | 6 => .array .int
  | 7 => .array .int
  | 8 => .array .int
  | 9 => .array .int
  | 10 => .array .int
  | 11 => .int
  | 12 => .int
  | 13 => .int
  | 14 => .boolean
  | 15 => .object "PlainSealModel$Text"
  | 16 => .object "PlainSealModel$Tags"
  | 17 => .object "PlainSealModel$Tags"
  | 18 => .array .byte
  | 19 => .object "PlainSealModel$Hash"
  | 20 => .array .int
  | 21 => .array .int
  | 22 => .array .int
  | 23 => .array .int
  | 24 => .array .int
  | 25 => .array .byte
  | 26 => .array .byte
  | _ => .array .byte
theorem nmX10 : ∀ a, a < 28 → ∀ b, b < 28 → a ≠ b → (TX10 a).2.1 ≠ (TX10 b).2.1 := by decide +kernel
theorem tyX10_ok : ∀ k, k < 28 → parseFieldDescriptor (TX10 k).2.2.1 = some (tyX10 k) := by decide +kernel
abbrev cX10_in : ByteArray := prog_9_method_1_code
def yX10_in : MethodName := ⟨RX10, "in", "(JJJ)Z"⟩
abbrev cX10_isSmall : ByteArray := prog_9_method_2_code
def yX10_isSmall : MethodName := ⟨RX10, "isSmall", "(I)Z"⟩
abbrev cX10_isDigit : ByteArray := prog_9_method_3_code
def yX10_isDigit : MethodName := ⟨RX10, "isDigit", "(I)Z"⟩
abbrev cX10_isLetter : ByteArray := prog_9_method_4_code
def yX10_isLetter : MethodName := ⟨RX10, "isLetter", "(I)Z"⟩
abbrev cX10_small : ByteArray := prog_9_method_5_code
def yX10_small : MethodName := ⟨RX10, "small", "(I)I"⟩
abbrev cX10_isWhite : ByteArray := prog_9_method_6_code
def yX10_isWhite : MethodName := ⟨RX10, "isWhite", "(I)Z"⟩
abbrev cX10_init : ByteArray := prog_9_method_7_code
def yX10_init : MethodName := ⟨RX10, "<init>", "()V"⟩
abbrev cX10_feed : ByteArray := prog_9_method_8_code
def yX10_feed : MethodName := ⟨RX10, "feed", "(IIIII)I"⟩
abbrev cX10_four : ByteArray := prog_9_method_9_code
def yX10_four : MethodName := ⟨RX10, "four", "(I)V"⟩
abbrev cX10_end : ByteArray := prog_9_method_10_code
def yX10_end : MethodName := ⟨RX10, "end", "(I)I"⟩
abbrev cX10_used : ByteArray := prog_9_method_11_code
def yX10_used : MethodName := ⟨RX10, "used", "()I"⟩
abbrev cX10_lineEnd : ByteArray := prog_9_method_12_code
def yX10_lineEnd : MethodName := ⟨RX10, "lineEnd", "([BII)I"⟩
abbrev cX10_message : ByteArray := prog_9_method_13_code
def yX10_message : MethodName := ⟨RX10, "message", "()I"⟩
abbrev cX10_valueEnd : ByteArray := prog_9_method_14_code
def yX10_valueEnd : MethodName := ⟨RX10, "valueEnd", "(I)I"⟩
abbrev cX10_bodyPlain : ByteArray := prog_9_method_15_code
def yX10_bodyPlain : MethodName := ⟨RX10, "bodyPlain", "(Z)V"⟩
abbrev cX10_fieldPlain : ByteArray := prog_9_method_16_code
def yX10_fieldPlain : MethodName := ⟨RX10, "fieldPlain", "(IZII)V"⟩
abbrev cX10_tell : ByteArray := prog_9_method_17_code
def yX10_tell : MethodName := ⟨RX10, "tell", "(LPlainSealModel$Text;)I"⟩
abbrev cX10_plainBody : ByteArray := prog_9_method_18_code
def yX10_plainBody : MethodName := ⟨RX10, "plainBody", "(Z)I"⟩
abbrev cX10_plainField : ByteArray := prog_9_method_19_code
def yX10_plainField : MethodName := ⟨RX10, "plainField", "(IZ)I"⟩
abbrev cX10_named : ByteArray := prog_9_method_20_code
def yX10_named : MethodName := ⟨RX10, "named", "()I"⟩
abbrev cX10_tags : ByteArray := prog_9_method_21_code
def yX10_tags : MethodName := ⟨RX10, "tags", "()I"⟩
abbrev cX10_tag : ByteArray := prog_9_method_22_code
def yX10_tag : MethodName := ⟨RX10, "tag", "()I"⟩
abbrev cX10_digitOf : ByteArray := prog_9_method_23_code
def yX10_digitOf : MethodName := ⟨RX10, "digitOf", "(I)I"⟩
abbrev cX10_decode : ByteArray := prog_9_method_24_code
def yX10_decode : MethodName := ⟨RX10, "decode", "(I)I"⟩
abbrev cX10_digest : ByteArray := prog_9_method_25_code
def yX10_digest : MethodName := ⟨RX10, "digest", "([BI[B)V"⟩
abbrev cX10_digits : ByteArray := prog_9_method_26_code
def yX10_digits : MethodName := ⟨RX10, "digits", "([B[I)V"⟩
abbrev cX10_remainder : ByteArray := prog_9_method_27_code
def yX10_remainder : MethodName := ⟨RX10, "remainder", "([II[I)V"⟩
abbrev cX10_isBelow : ByteArray := prog_9_method_28_code
def yX10_isBelow : MethodName := ⟨RX10, "isBelow", "([I[I)Z"⟩
abbrev cX10_times : ByteArray := prog_9_method_29_code
def yX10_times : MethodName := ⟨RX10, "times", "([I)V"⟩
abbrev cX10_digest_ : ByteArray := prog_9_method_30_code
def yX10_digest_ : MethodName := ⟨RX10, "digest", "()I"⟩
abbrev cX10_power : ByteArray := prog_9_method_31_code
def yX10_power : MethodName := ⟨RX10, "power", "()I"⟩
abbrev cX10_octet : ByteArray := prog_9_method_32_code
def yX10_octet : MethodName := ⟨RX10, "octet", "(I)I"⟩
def RJ6 : String := "java/lang/Integer"
def TJ6 : u_T := fun k => match k with
  | _ => ("", "", "", false)
def tyJ6 : Nat → FieldType := fun k => match k with
  | _ => .int
theorem nmJ6 : ∀ a, a < 0 → ∀ b, b < 0 → a ≠ b → (TJ6 a).2.1 ≠ (TJ6 b).2.1 := by decide +kernel
theorem tyJ6_ok : ∀ k, k < 0 → parseFieldDescriptor (TJ6 k).2.2.1 = some (tyJ6 k) := by decide +kernel
abbrev cJ6_rotateRight_7cf53 : ByteArray := prog_13_method_51_code
def yJ6_rotateRight_7cf53 : MethodName := ⟨RJ6, "rotateRight", "(II)I"⟩
def RJ9 : String := "java/lang/Math"
def TJ9 : u_T := fun k => match k with
  | _ => ("", "", "", false)
def tyJ9 : Nat → FieldType := fun k => match k with
  | _ => .int
theorem nmJ9 : ∀ a, a < 0 → ∀ b, b < 0 → a ≠ b → (TJ9 a).2.1 ≠ (TJ9 b).2.1 := by decide +kernel
theorem tyJ9_ok : ∀ k, k < 0 → parseFieldDescriptor (TJ9 k).2.2.1 = some (tyJ9 k) := by decide +kernel
abbrev cJ9_multiplyHigh_f86c9 : ByteArray := prog_14_method_45_code
def yJ9_multiplyHigh_f86c9 : MethodName := ⟨RJ9, "multiplyHigh", "(JJ)J"⟩
abbrev cJ9_min_7cf53 : ByteArray := prog_14_method_69_code
def yJ9_min_7cf53 : MethodName := ⟨RJ9, "min", "(II)I"⟩
abbrev cJ9_min_f86c9 : ByteArray := prog_14_method_70_code
def yJ9_min_f86c9 : MethodName := ⟨RJ9, "min", "(JJ)J"⟩
def RJ10 : String := "java/lang/System"
def TJ10 : u_T := fun k => match k with
  | _ => ("", "", "", false)
def tyJ10 : Nat → FieldType := fun k => match k with
  | _ => .int
theorem nmJ10 : ∀ a, a < 0 → ∀ b, b < 0 → a ≠ b → (TJ10 a).2.1 ≠ (TJ10 b).2.1 := by decide +kernel
theorem tyJ10_ok : ∀ k, k < 0 → parseFieldDescriptor (TJ10 k).2.2.1 = some (tyJ10 k) := by decide +kernel
def RJ7 : String := "java/util/Arrays"
def TJ7 : u_T := fun k => match k with
  | _ => ("", "", "", false)
def tyJ7 : Nat → FieldType := fun k => match k with
  | _ => .int
theorem nmJ7 : ∀ a, a < 0 → ∀ b, b < 0 → a ≠ b → (TJ7 a).2.1 ≠ (TJ7 b).2.1 := by decide +kernel
theorem tyJ7_ok : ∀ k, k < 0 → parseFieldDescriptor (TJ7 k).2.2.1 = some (tyJ7 k) := by decide +kernel
abbrev cJ7_fill_53178 : ByteArray := prog_16_method_103_code
def yJ7_fill_53178 : MethodName := ⟨RJ7, "fill", "([II)V"⟩
def RL : String := "PlainSealLaw"
abbrev cL_law : ByteArray := code
def yL_law : MethodName := ⟨RL, "law", "([I)Z"⟩
abbrev classes : List vw_C := [(RX0, TX0, 2), (RX1, TX1, 3), (RX2, TX2, 4), (RX3, TX3, 3), (RX5, TX5, 1), (RX6, TX6, 6), (RX7, TX7, 7), (RX8, TX8, 5), (RX9, TX9, 2), (RX10, TX10, 28)]
def gx_TB : List Cond := lw_tbl.filter goodWord
theorem gx_TBgood (w : Cond) (h : w ∈ gx_TB) : goodWord w = true := (List.mem_filter.mp h).2
theorem iwX0 : ∀ w ∈ u_ws RX0 TX0 2, w ∈ gx_TB := by decide +kernel
theorem iwX1 : ∀ w ∈ u_ws RX1 TX1 3, w ∈ gx_TB := by decide +kernel
theorem iwX2 : ∀ w ∈ u_ws RX2 TX2 4, w ∈ gx_TB := by decide +kernel
theorem iwX3 : ∀ w ∈ u_ws RX3 TX3 3, w ∈ gx_TB := by decide +kernel
theorem iwX5 : ∀ w ∈ u_ws RX5 TX5 1, w ∈ gx_TB := by decide +kernel
theorem iwX6 : ∀ w ∈ u_ws RX6 TX6 6, w ∈ gx_TB := by decide +kernel
theorem iwX7 : ∀ w ∈ u_ws RX7 TX7 7, w ∈ gx_TB := by decide +kernel
theorem iwX8 : ∀ w ∈ u_ws RX8 TX8 5, w ∈ gx_TB := by decide +kernel
theorem iwX9 : ∀ w ∈ u_ws RX9 TX9 2, w ∈ gx_TB := by decide +kernel
theorem iwX10 : ∀ w ∈ u_ws RX10 TX10 28, w ∈ gx_TB := by decide +kernel
def gx_ty (ci : Nat) : Nat → FieldType := match ci with
  | 0 => tyX0
  | 1 => tyX1
  | 2 => tyX2
  | 3 => tyX3
  | 4 => tyX5
  | 5 => tyX6
  | 6 => tyX7
  | 7 => tyX8
  | 8 => tyX9
  | _ => tyX10
/-- what the cells are: 0 the PlainSeal, 1 its tape, 2 its out, 3 its mail, 4 the mail's text, 5 its tagList, 6 that one's text, 7 its sha256, 8 its modular; 9 to 12 the rows held by 1, 2, 4, 6; 13 places; 14 state, 15 mixed, 16 schedule; 17 base, 18 modulus, 19 rest, 20 product; 21 the model, 22 its plain, 23 told, 24 its text, 25 draft, 26 its text, 27 its hash; 28 tape, 29 out, 30 mail, 31 begin, 32 colon, 33 stop, 34 to 36 the new ones, 37 plain's row, 38 the row of 24, 39 to 41 from, equals, to of 23, 42 the row of 26, 43 to 45 of 25, 46 made, 47 first, 48 h, 49 w, 50 k, 51 block, 52 modulus, 53 power, 54 number, 55 product, 56 square, 57 hashed, 58 first, 59 second; 60 FIRST_STATE, 61 ROUND_WORDS -/
def gx_kinds : List ((Nat × FieldType) ⊕ Nat) := [.inr 5, .inr 0, .inr 0, .inr 1, .inr 0, .inr 4, .inr 0, .inr 3, .inr 2, .inl (2000, .byte), .inl (2000, .byte), .inl (2000, .byte), .inl (2000, .byte), .inl (21, .int), .inl (8, .int), .inl (8, .int), .inl (64, .int), .inl (32, .int), .inl (32, .int), .inl (32, .int), .inl (64, .int), .inr 9, .inr 8, .inr 7, .inr 8, .inr 7, .inr 8, .inr 6, .inl (2000, .byte), .inl (4000, .byte), .inl (2000, .byte), .inl (21, .int), .inl (21, .int), .inl (21, .int), .inl (21, .int), .inl (21, .int), .inl (21, .int), .inl (4000, .byte), .inl (2000, .byte), .inl (40, .int), .inl (40, .int), .inl (40, .int), .inl (2000, .byte), .inl (40, .int), .inl (40, .int), .inl (40, .int), .inl (900, .byte), .inl (8, .int), .inl (8, .int), .inl (64, .int), .inl (64, .int), .inl (64, .byte), .inl (33, .int), .inl (33, .int), .inl (33, .int), .inl (66, .int), .inl (33, .int), .inl (32, .byte), .inl (64, .byte), .inl (64, .byte), .inl (8, .int), .inl (64, .int)]
def gx_kd (i : Nat) : (Nat × FieldType) ⊕ Nat := gx_kinds.getD i (.inr 99)
def gx_Nw : Nat := 60
def gx_N : Nat := 62
theorem gx_NwN : gx_Nw ≤ gx_N := by decide
def gx_stat : List (String × String × String × Nat) := [("PlainSeal$Sha256", "FIRST_STATE", "[I", 60), ("PlainSeal$Sha256", "ROUND_WORDS", "[I", 61)]
def gx_nest : List (String × Nat × MethodName × String) := [(RX1, 57, yX6_isSmallLetter, RX6), (RX1, 60, yX6_isGreatLetter, RX6), (RX1, 63, yX6_isDigit, RX6), (RX1, 66, yX6_isWhite, RX6), (RX1, 73, yX6_small, RX6), (RX0, 34, yX6_isWhite, RX6), (RX5, 53, yX6_isSmallLetter, RX6), (RX4, 30, yX6_isGreatLetter, RX6), (RX4, 34, yX6_isSmallLetter, RX6), (RX4, 37, yX6_isDigit, RX6), (RX8, 41, yX10_isSmall, RX10), (RX8, 45, yX10_in, RX10)]
theorem mn_0 : (RX1, 57, yX6_isSmallLetter, RX6) ∈ gx_nest := List.mem_of_getElem? (i := 0) rfl
theorem mn_1 : (RX1, 60, yX6_isGreatLetter, RX6) ∈ gx_nest := List.mem_of_getElem? (i := 1) rfl
theorem mn_2 : (RX1, 63, yX6_isDigit, RX6) ∈ gx_nest := List.mem_of_getElem? (i := 2) rfl
theorem mn_3 : (RX1, 66, yX6_isWhite, RX6) ∈ gx_nest := List.mem_of_getElem? (i := 3) rfl
theorem mn_4 : (RX1, 73, yX6_small, RX6) ∈ gx_nest := List.mem_of_getElem? (i := 4) rfl
theorem mn_5 : (RX0, 34, yX6_isWhite, RX6) ∈ gx_nest := List.mem_of_getElem? (i := 5) rfl
theorem mn_6 : (RX5, 53, yX6_isSmallLetter, RX6) ∈ gx_nest := List.mem_of_getElem? (i := 6) rfl
theorem mn_7 : (RX4, 30, yX6_isGreatLetter, RX6) ∈ gx_nest := List.mem_of_getElem? (i := 7) rfl
theorem mn_8 : (RX4, 34, yX6_isSmallLetter, RX6) ∈ gx_nest := List.mem_of_getElem? (i := 8) rfl
theorem mn_9 : (RX4, 37, yX6_isDigit, RX6) ∈ gx_nest := List.mem_of_getElem? (i := 9) rfl
theorem mn_10 : (RX8, 41, yX10_isSmall, RX10) ∈ gx_nest := List.mem_of_getElem? (i := 10) rfl
theorem mn_11 : (RX8, 45, yX10_in, RX10) ∈ gx_nest := List.mem_of_getElem? (i := 11) rfl
end
section
/-! THE WORLD AS ONE PURE STATE. All cells that live behind the constructors have numbers below gx_N (those below gx_Nw may be written, the rest are constant arrays of statics); a pure state s: int fields, long fields, reference fields (a number of a cell), arrays. -/
abbrev gx_S : Type := (Nat → Nat → Int32) × (Nat → Nat → Int64) × (Nat → Nat → Nat) × (Nat → Nat → Int32)
abbrev gx_Z : Type := va_G × (Nat → Nat) × (Nat → ClassId)
def gx_i (u : gx_S) (o k : Nat) : Int32 := u.1 o k
def gx_l (u : gx_S) (o k : Nat) : Int64 := u.2.1 o k
def gx_r (u : gx_S) (o k : Nat) : Nat := u.2.2.1 o k
def gx_a (u : gx_S) (o : Nat) : Nat → Int32 := u.2.2.2 o
def gx_pi (u : gx_S) (o k : Nat) (x : Int32) : gx_S := (fun a b => if a = o ∧ b = k then x else u.1 a b, u.2.1, u.2.2.1, u.2.2.2)
def gx_pl (u : gx_S) (o k : Nat) (x : Int64) : gx_S := (u.1, fun a b => if a = o ∧ b = k then x else u.2.1 a b, u.2.2.1, u.2.2.2)
def gx_pr (u : gx_S) (o k : Nat) (x : Nat) : gx_S := (u.1, u.2.1, fun a b => if a = o ∧ b = k then x else u.2.2.1 a b, u.2.2.2)
def gx_pa (u : gx_S) (o : Nat) (f : Nat → Int32) : gx_S := (u.1, u.2.1, u.2.2.1, fun a => if a = o then f else u.2.2.2 a)
theorem gx_i_pi (u : gx_S) (o k a b : Nat) (x : Int32) : gx_i (gx_pi u o k x) a b = if a = o ∧ b = k then x else gx_i u a b := rfl
theorem gx_i_pl (u : gx_S) (o k a b : Nat) (x : Int64) : gx_i (gx_pl u o k x) a b = gx_i u a b := rfl
theorem gx_i_pr (u : gx_S) (o k a b : Nat) (x : Nat) : gx_i (gx_pr u o k x) a b = gx_i u a b := rfl
theorem gx_i_pa (u : gx_S) (o a b : Nat) (f : Nat → Int32) : gx_i (gx_pa u o f) a b = gx_i u a b := rfl
theorem gx_l_pi (u : gx_S) (o k a b : Nat) (x : Int32) : gx_l (gx_pi u o k x) a b = gx_l u a b := rfl
theorem gx_l_pl (u : gx_S) (o k a b : Nat) (x : Int64) : gx_l (gx_pl u o k x) a b = if a = o ∧ b = k then x else gx_l u a b := rfl
theorem gx_l_pr (u : gx_S) (o k a b : Nat) (x : Nat) : gx_l (gx_pr u o k x) a b = gx_l u a b := rfl
theorem gx_l_pa (u : gx_S) (o a b : Nat) (f : Nat → Int32) : gx_l (gx_pa u o f) a b = gx_l u a b := rfl
theorem gx_r_pi (u : gx_S) (o k a b : Nat) (x : Int32) : gx_r (gx_pi u o k x) a b = gx_r u a b := rfl
theorem gx_r_pl (u : gx_S) (o k a b : Nat) (x : Int64) : gx_r (gx_pl u o k x) a b = gx_r u a b := rfl
theorem gx_r_pr (u : gx_S) (o k a b : Nat) (x : Nat) : gx_r (gx_pr u o k x) a b = if a = o ∧ b = k then x else gx_r u a b := rfl
theorem gx_r_pa (u : gx_S) (o a b : Nat) (f : Nat → Int32) : gx_r (gx_pa u o f) a b = gx_r u a b := rfl
theorem gx_a_pi (u : gx_S) (o k a : Nat) (x : Int32) : gx_a (gx_pi u o k x) a = gx_a u a := rfl
theorem gx_a_pl (u : gx_S) (o k a : Nat) (x : Int64) : gx_a (gx_pl u o k x) a = gx_a u a := rfl
theorem gx_a_pr (u : gx_S) (o k a : Nat) (x : Nat) : gx_a (gx_pr u o k x) a = gx_a u a := rfl
theorem gx_a_pa (u : gx_S) (o a : Nat) (f : Nat → Int32) : gx_a (gx_pa u o f) a = if a = o then f else gx_a u a := rfl
def gx_len (a : Nat) : Nat := match gx_kd a with
  | .inl q => q.1
  | .inr _ => 0
/-- an object of the ci-th of 'classes' -/
def gx_isO (o ci : Nat) : Prop := o < gx_Nw ∧ gx_kd o = .inr ci
/-- an array that is read -/
def gx_isR (a : Nat) (ty : FieldType) : Prop := a < gx_N ∧ gx_kd a = .inl (gx_len a, ty)
/-- an array that may be written -/
def gx_isA (a : Nat) (ty : FieldType) : Prop := a < gx_Nw ∧ gx_kd a = .inl (gx_len a, ty)
theorem gx_isA.r {a : Nat} {ty : FieldType} (h : gx_isA a ty) : gx_isR a ty := ⟨Nat.lt_of_lt_of_le h.1 gx_NwN, h.2⟩
def gx_fv (Z : gx_Z) (u : gx_S) (o ci k : Nat) : Value := match gx_ty ci k with
  | .long => .long (gx_l u o k)
  | .object _ => .ref (Z.2.1 (gx_r u o k))
  | .array _ => .ref (Z.2.1 (gx_r u o k))
  | _ => .int (gx_i u o k)
def gx_nf (ci : Nat) : Nat := match classes[ci]? with
  | some q => q.2.2
  | none => 0
def gx_ro (Z : gx_Z) (u : gx_S) (i n : Nat) (H : Heap) : Prop := ∃ cell : Cell, H[Z.2.1 i]? = some cell ∧ cell.cls = Z.2.2 i ∧ cell.vm ≠ .unknown ∧ (∀ k, cell.vm ≠ .statics k) ∧ cell.slots.size = n ∧ ∀ j, j < n → cell.slots[j]? = some (.int (gx_a u i j))
def gx_at (Z : gx_Z) (u : gx_S) (i : Nat) (H : Heap) : Prop := match gx_kd i with
  | .inl q => (∀ j, j < q.1 → fits q.2 (.int (gx_a u i j)) = true) ∧ (i < gx_Nw → H[Z.2.1 i]? = some (vp_cell (Z.2.2 i) (q.1, .inl (gx_a u i)))) ∧ (¬ i < gx_Nw → gx_ro Z u i q.1 H)
  | .inr ci => t_OB (Z.2.1 i) (Z.1.1 ci) (gx_nf ci) (Z.1.2 ci) H (gx_fv Z u i ci)
def gx_W (Z : gx_Z) (u : gx_S) (H : Heap) : Prop := ∀ i, i < gx_N → gx_at Z u i H
def gx_A (Z : gx_Z) : Nat → Prop := fun q => ∃ i, i < gx_Nw ∧ Z.2.1 i = q
def gx_K (Z : gx_Z) (U : State) : Prop := (∀ (c : Nat) (q : vw_C), classes[c]? = some q → u_Kn U q.1 q.2.1 q.2.2 (Z.1.1 c) (Z.1.2 c)) ∧ (∀ (i : Nat) (q : Nat × FieldType), i < gx_N → gx_kd i = .inl q → ∃ k, U.vm.classes[Z.2.2 i]? = some k ∧ ∃ comp, k.kind = .array comp q.2) ∧ (∀ i j, i < gx_N → j < gx_N → Z.2.1 i = Z.2.1 j → i = j) ∧ (∀ q ∈ gx_nest, va_Nw (.methodLinkNest q.1 q.2.1 q.2.2.1 q.2.2.2) U) ∧ (∀ q ∈ gx_stat, va_Z q.1 q.2.1 q.2.2.1 (.ref (Z.2.1 q.2.2.2)) (gx_A Z) U U.heap)
theorem gx_K.moved {Z : gx_Z} {s U : State} {H : Heap} {locs : List Loc} (h : gx_K Z s) (hW : s.WarmedH U.vm) (hH : U.heap = H) (hS : va_S (gx_A Z) s.heap H locs) : gx_K Z U := by
  obtain ⟨h1, h2, h3, h4, h5⟩ := h
  refine ⟨fun c q hq => u_Kn_moved hW.alike (h1 c q hq), fun i q hi hq => ?_, h3, fun q hq => va_Nw.warmM hW (h4 q hq), fun q hq => ?_⟩
  · obtain ⟨k, hk, comp, hkk⟩ := h2 i q hi hq
    obtain ⟨k', hk', he⟩ := hW.alike.2.2 _ _ hk
    exact ⟨k', hk', comp, by rw [he]; exact hkk⟩
  · exact ((h5 q hq).kept (H1 := U.heap) (fun a h1 h2 => by rw [hH]; exact hS.2.1 a h1 h2)).moved hW.alike
theorem gx_K.calling {Z : gx_Z} {U : State} {g : JFrame} {mk : MethodId} {a : Array Value} (h : gx_K Z U) : gx_K Z (U.calling g mk a) := by
  obtain ⟨h1, h2, h3, h4, h5⟩ := h
  exact ⟨fun c q hq => u_Kn_moved (u := U) (Vm.Alike.refl U.vm) (h1 c q hq), h2, h3, fun q hq => va_Nw.same (u := U) rfl rfl (h4 q hq), fun q hq => va_Z.moved (u := U) (Vm.Alike.refl U.vm) (h5 q hq)⟩
abbrev gx_E : Type := Program × Launch × Env × State × MethodId × Array Value × List Frame × Method × Code × Nat × (Array Value → State → Outcome → State → Prop) × gx_Z
abbrev ex_p (E : gx_E) : Program := E.1
abbrev ex_l (E : gx_E) : Launch := E.2.1
abbrev ex_e (E : gx_E) : Env := E.2.2.1
abbrev ex_s (E : gx_E) : State := E.2.2.2.1
abbrev ex_m (E : gx_E) : MethodId := E.2.2.2.2.1
abbrev ex_args (E : gx_E) : Array Value := E.2.2.2.2.2.1
abbrev ex_below (E : gx_E) : List Frame := E.2.2.2.2.2.2.1
abbrev ex_meth (E : gx_E) : Method := E.2.2.2.2.2.2.2.1
abbrev ex_c (E : gx_E) : Code := E.2.2.2.2.2.2.2.2.1
abbrev ex_d (E : gx_E) : Nat := E.2.2.2.2.2.2.2.2.2.1
abbrev ex_Q (E : gx_E) : Array Value → State → Outcome → State → Prop := E.2.2.2.2.2.2.2.2.2.2.1
abbrev ex_Z (E : gx_E) : gx_Z := E.2.2.2.2.2.2.2.2.2.2.2
abbrev ex_ad (E : gx_E) (i : Nat) : Nat := (ex_Z E).2.1 i
def gx_rm (d : Nat) : Room := { frames := d, cells := 0, slots := 0, locals := 40 * d }
def gx_B (Z : gx_Z) (u : gx_S) (t : State) : Prop := gx_W Z u t.heap
def gx_Pre (Z : gx_Z) (u : gx_S) (av : List Value) : Array Value → State → Prop := va_Pc av (fun U => gx_K Z U ∧ gx_W Z u U.heap)
/-- the machine at pc, with these locals and this stack, over the pure state u, comes to the method's end with its post -/
def gx_Wc (E : gx_E) (nL pc : Nat) (lv : List (Nat × Value)) (st : List Value) (u : gx_S) : Prop :=
  ∀ (H : Heap) (locs : List Loc) (ls : Array Slot), lv_has ls nL lv → gx_W (ex_Z E) u H → va_S (gx_A (ex_Z E)) (ex_s E).heap H locs →
    W (ex_p E) (ex_l E) (ex_e E) (gx_rm (ex_d E)) (ex_s E) (ex_m E) (ex_args E) (ex_below E) (ex_meth E) (ex_c E) H locs 0 0 (MQ (ex_below E) (ex_Q E) (ex_args E) (ex_s E) 0 0 (gx_A (ex_Z E))) (F0 (ex_m E) pc ls st)
def gx_X (E : gx_E) (cc : ByteArray) (nL : Nat) (own : String) (ret : Option FieldType) : Prop :=
  (ex_p E).tables.exec = Jvm.exec ∧ (ex_c E).code = cc ∧ (ex_c E).maxLocals = nL ∧ (ex_s E).vm.findClass own = some (ex_m E).cls ∧ (∀ w ∈ gx_TB, w.before (ex_args E) (ex_s E) = true) ∧ gx_K (ex_Z E) (ex_s E) ∧ (ex_meth E).sig.returnType = ret ∧ (ex_meth E).locks = false
theorem gx_good {y y2 : MethodName} {b b2 : ByteArray} {n n2 : Nat} {r r2 : Option FieldType} (h : Cond.code y2 b2 n2 r2 ∈ gx_TB) : GoodIn (Cond.code y b n r :: gx_TB) (Cond.code y2 b2 n2 r2 :: gx_TB) := by
  intro w hw
  rcases List.mem_cons.mp hw with rfl | hw
  · exact ⟨List.mem_cons_of_mem _ h, Or.inl rfl⟩
  · exact ⟨List.mem_cons_of_mem _ hw, good_of_word (gx_TBgood w hw)⟩
theorem gx_goodT {y2 : MethodName} {b2 : ByteArray} {n2 : Nat} {r2 : Option FieldType} (h : Cond.code y2 b2 n2 r2 ∈ gx_TB) : GoodIn gx_TB (Cond.code y2 b2 n2 r2 :: gx_TB) := by
  intro w hw
  rcases List.mem_cons.mp hw with rfl | hw
  · exact ⟨h, Or.inl rfl⟩
  · exact ⟨hw, good_of_word (gx_TBgood w hw)⟩
/-- a contract out of the walk of a body -/
theorem gx_met {l : Launch} {y : MethodName} {cc : ByteArray} {maxL : Nat} {ret : Option FieldType} {d : Nat} {av : List Value} {u : gx_S} {Z : gx_Z} {Qc : Array Value → State → Outcome → State → Prop} (hy : plainName y.cls = true) (hlen : (lg_sl av).length ≤ maxL)
    (body : ∀ E : gx_E, gx_X E cc maxL y.cls ret → ex_Z E = Z → ex_Q E = Qc → ex_d E = d → ex_l E = l → gx_Wc E maxL 0 (lv_args 0 av) [] u) : Met l y (Cond.code y cc maxL ret :: gx_TB) (gx_rm d) (gx_Pre Z u av) Qc 0 0 (gx_A Z) := by
  refine Met.ofW (cc := cc) (maxL := maxL) (ret := ret) hy rfl ?_
  intro p e s m args below meth c s₁ B hml hv
  obtain ⟨rfl, hK, hW⟩ := hv
  have hts := atoms_spec (ws := Cond.code y cc maxL ret :: gx_TB) B.pre
  have hown : s.vm.findClass y.cls = some m.cls := findClass_of_methodNamed B.named
  have hl := lv_entry av (n := maxL) hlen
  rw [lg_entry_eq]
  exact body (p, l, e, s, m, av.toArray, below, meth, c, d, Qc, Z) ⟨B.exec, B.bytes, hml, hown, fun w hw => hts w (List.mem_cons_of_mem _ hw), hK, B.returns, B.notSynchronized⟩ rfl rfl rfl rfl s.heap [] _ hl hW va_S.rf
section GX
variable {E : gx_E} {cc : ByteArray} {nL : Nat} {own : String} {ret : Option FieldType} {pc : Nat} {lv : List (Nat × Value)} {st : List Value} {u : gx_S}
theorem gx_nami {x : Int32} (k : ∀ y : Int32, y = x → gx_Wc E nL pc lv (.int y :: st) u) : gx_Wc E nL pc lv (.int x :: st) u := k x rfl
theorem gx_naml {x : Int64} (k : ∀ y : Int64, y = x → gx_Wc E nL pc lv (.long y :: st) u) : gx_Wc E nL pc lv (.long x :: st) u := k x rfl
theorem gx_nams (k : ∀ t : gx_S, t = u → gx_Wc E nL pc lv st t) : gx_Wc E nL pc lv st u := k u rfl
theorem gx_sub {lv' : List (Nat × Value)} (ks : List Nat) (hl : lv_pick lv ks = lv') (k : gx_Wc E nL pc lv' st u) : gx_Wc E nL pc lv st u := fun H locs ls h hw hs => k H locs ls (lv_sub h ks hl) hw hs
theorem gx_iconst (X : gx_X E cc nL own ret) {n : Int} {v : Int32} (hdg : decode cc pc = .ok (.iconst n, 1)) (hv : Int32.ofInt n = v)
    (k : gx_Wc E nL (pc + 1) lv (.int v :: st) u) : gx_Wc E nL pc lv st u := fun H locs ls hl hw hs => lv_iconst X.1 X.2.1 hdg hv (k H locs ls hl hw hs)
theorem gx_bipush (X : gx_X E cc nL own ret) {n : Int} {v : Int32} (hdg : decode cc pc = .ok (.bipush n, 2)) (hv : (Int8.ofInt n).toInt32 = v)
    (k : gx_Wc E nL (pc + 2) lv (.int v :: st) u) : gx_Wc E nL pc lv st u := fun H locs ls hl hw hs => lv_bipush X.1 X.2.1 hdg hv (k H locs ls hl hw hs)
theorem gx_sipush (X : gx_X E cc nL own ret) {n : Int} {v : Int32} (hdg : decode cc pc = .ok (.sipush n, 3)) (hv : (Int16.ofInt n).toInt32 = v)
    (k : gx_Wc E nL (pc + 3) lv (.int v :: st) u) : gx_Wc E nL pc lv st u := fun H locs ls hl hw hs => lv_sipush X.1 X.2.1 hdg hv (k H locs ls hl hw hs)
theorem gx_lconst (X : gx_X E cc nL own ret) {n : Fin 2} {v : Int64} (hdg : decode cc pc = .ok (.lconst n, 1)) (hv : Int64.ofNat (n : Nat) = v)
    (k : gx_Wc E nL (pc + 1) lv (.long v :: st) u) : gx_Wc E nL pc lv st u := fun H locs ls hl hw hs => lv_lconst X.1 X.2.1 hdg hv (k H locs ls hl hw hs)
theorem gx_iload_n (X : gx_X E cc nL own ret) {k : Fin 4} {i j : Nat} {x : Int32} (hdg : decode cc pc = .ok (.iload_n k, 1)) (hi : (k : Nat) = i) (hj : lv[j]? = some (i, .int x))
    (kk : gx_Wc E nL (pc + 1) lv (.int x :: st) u) : gx_Wc E nL pc lv st u := fun H locs ls hl hw hs => lv_iload_n X.1 X.2.1 hdg hi (lv_at hl j hj) (kk H locs ls hl hw hs)
theorem gx_iload (X : gx_X E cc nL own ret) {i j : Nat} {x : Int32} (hdg : decode cc pc = .ok (.iload i, 2)) (hj : lv[j]? = some (i, .int x))
    (kk : gx_Wc E nL (pc + 2) lv (.int x :: st) u) : gx_Wc E nL pc lv st u := fun H locs ls hl hw hs => lv_iload X.1 X.2.1 hdg (lv_at hl j hj) (kk H locs ls hl hw hs)
theorem gx_lload_n (X : gx_X E cc nL own ret) {k : Fin 4} {i j : Nat} {x : Int64} (hdg : decode cc pc = .ok (.lload_n k, 1)) (hi : (k : Nat) = i) (hj : lv[j]? = some (i, .long x))
    (kk : gx_Wc E nL (pc + 1) lv (.long x :: st) u) : gx_Wc E nL pc lv st u := fun H locs ls hl hw hs => lv_lload_n X.1 X.2.1 hdg hi (lv_at hl j hj) (kk H locs ls hl hw hs)
theorem gx_lload (X : gx_X E cc nL own ret) {i j : Nat} {x : Int64} (hdg : decode cc pc = .ok (.lload i, 2)) (hj : lv[j]? = some (i, .long x))
    (kk : gx_Wc E nL (pc + 2) lv (.long x :: st) u) : gx_Wc E nL pc lv st u := fun H locs ls hl hw hs => lv_lload X.1 X.2.1 hdg (lv_at hl j hj) (kk H locs ls hl hw hs)
theorem gx_aload_n (X : gx_X E cc nL own ret) {k : Fin 4} {i j : Nat} {x : Nat} (hdg : decode cc pc = .ok (.aload_n k, 1)) (hi : (k : Nat) = i) (hj : lv[j]? = some (i, .ref x))
    (kk : gx_Wc E nL (pc + 1) lv (.ref x :: st) u) : gx_Wc E nL pc lv st u := fun H locs ls hl hw hs => lv_aload_n X.1 X.2.1 hdg hi (lv_at hl j hj) (kk H locs ls hl hw hs)
theorem gx_aload (X : gx_X E cc nL own ret) {i j : Nat} {x : Nat} (hdg : decode cc pc = .ok (.aload i, 2)) (hj : lv[j]? = some (i, .ref x))
    (kk : gx_Wc E nL (pc + 2) lv (.ref x :: st) u) : gx_Wc E nL pc lv st u := fun H locs ls hl hw hs => lv_aload X.1 X.2.1 hdg (lv_at hl j hj) (kk H locs ls hl hw hs)
theorem gx_istore_n (X : gx_X E cc nL own ret) {k : Fin 4} {i : Nat} {x : Int32} {lv' : List (Nat × Value)} (hdg : decode cc pc = .ok (.istore_n k, 1)) (hi : (k : Nat) = i) (hn : i < nL) (hl' : (i, Value.int x) :: lv.filter (fun q => !(q.1 == i) && !(q.1 + 1 == i && q.2.category == 2)) = lv')
    (kk : gx_Wc E nL (pc + 1) lv' st u) : gx_Wc E nL pc lv (.int x :: st) u := fun H locs ls hl hw hs => lv_istore_n X.1 X.2.1 hdg hi hl hn hl' (fun ls' h' => kk H locs ls' h' hw hs)
theorem gx_istore (X : gx_X E cc nL own ret) {i : Nat} {x : Int32} {lv' : List (Nat × Value)} (hdg : decode cc pc = .ok (.istore i, 2)) (hn : i < nL) (hl' : (i, Value.int x) :: lv.filter (fun q => !(q.1 == i) && !(q.1 + 1 == i && q.2.category == 2)) = lv')
    (kk : gx_Wc E nL (pc + 2) lv' st u) : gx_Wc E nL pc lv (.int x :: st) u := fun H locs ls hl hw hs => lv_istore X.1 X.2.1 hdg hl hn hl' (fun ls' h' => kk H locs ls' h' hw hs)
theorem gx_lstore_n (X : gx_X E cc nL own ret) {k : Fin 4} {i : Nat} {x : Int64} {lv' : List (Nat × Value)} (hdg : decode cc pc = .ok (.lstore_n k, 1)) (hi : (k : Nat) = i) (hn : i + 1 < nL) (hl' : (i, Value.long x) :: lv.filter (fun q => !(q.1 == i) && (!(q.1 == i + 1) && !(q.1 + 1 == i && q.2.category == 2))) = lv')
    (kk : gx_Wc E nL (pc + 1) lv' st u) : gx_Wc E nL pc lv (.long x :: st) u := fun H locs ls hl hw hs => lv_lstore_n X.1 X.2.1 hdg hi hl hn hl' (fun ls' h' => kk H locs ls' h' hw hs)
theorem gx_lstore (X : gx_X E cc nL own ret) {i : Nat} {x : Int64} {lv' : List (Nat × Value)} (hdg : decode cc pc = .ok (.lstore i, 2)) (hn : i + 1 < nL) (hl' : (i, Value.long x) :: lv.filter (fun q => !(q.1 == i) && (!(q.1 == i + 1) && !(q.1 + 1 == i && q.2.category == 2))) = lv')
    (kk : gx_Wc E nL (pc + 2) lv' st u) : gx_Wc E nL pc lv (.long x :: st) u := fun H locs ls hl hw hs => lv_lstore X.1 X.2.1 hdg hl hn hl' (fun ls' h' => kk H locs ls' h' hw hs)
theorem gx_astore_n (X : gx_X E cc nL own ret) {k : Fin 4} {i : Nat} {x : Nat} {lv' : List (Nat × Value)} (hdg : decode cc pc = .ok (.astore_n k, 1)) (hi : (k : Nat) = i) (hn : i < nL) (hl' : (i, Value.ref x) :: lv.filter (fun q => !(q.1 == i) && !(q.1 + 1 == i && q.2.category == 2)) = lv')
    (kk : gx_Wc E nL (pc + 1) lv' st u) : gx_Wc E nL pc lv (.ref x :: st) u := fun H locs ls hl hw hs => lv_astore_n X.1 X.2.1 hdg hi hl hn hl' (fun ls' h' => kk H locs ls' h' hw hs)
theorem gx_astore (X : gx_X E cc nL own ret) {i : Nat} {x : Nat} {lv' : List (Nat × Value)} (hdg : decode cc pc = .ok (.astore i, 2)) (hn : i < nL) (hl' : (i, Value.ref x) :: lv.filter (fun q => !(q.1 == i) && !(q.1 + 1 == i && q.2.category == 2)) = lv')
    (kk : gx_Wc E nL (pc + 2) lv' st u) : gx_Wc E nL pc lv (.ref x :: st) u := fun H locs ls hl hw hs => lv_astore X.1 X.2.1 hdg hl hn hl' (fun ls' h' => kk H locs ls' h' hw hs)
theorem gx_iinc (X : gx_X E cc nL own ret) {i j : Nat} {n : Int} {x v : Int32} {lv' : List (Nat × Value)} (hdg : decode cc pc = .ok (.iinc i n, 3)) (hj : lv[j]? = some (i, .int x)) (hv : x + Int32.ofInt n = v) (hn : i < nL) (hl' : (i, Value.int v) :: lv.filter (fun q => !(q.1 == i) && !(q.1 + 1 == i && q.2.category == 2)) = lv')
    (kk : gx_Wc E nL (pc + 3) lv' st u) : gx_Wc E nL pc lv st u := fun H locs ls hl hw hs => lv_iinc X.1 X.2.1 hdg hl hj hv hn hl' (fun ls' h' => kk H locs ls' h' hw hs)
theorem gx_iadd (X : gx_X E cc nL own ret) {x y : Int32} (hdg : decode cc pc = .ok (.iadd, 1))
    (k : gx_Wc E nL (pc + 1) lv (.int (x + y) :: st) u) : gx_Wc E nL pc lv (.int y :: .int x :: st) u := fun H locs ls hl hw hs => lv_iadd X.1 X.2.1 hdg (k H locs ls hl hw hs)
theorem gx_isub (X : gx_X E cc nL own ret) {x y : Int32} (hdg : decode cc pc = .ok (.isub, 1))
    (k : gx_Wc E nL (pc + 1) lv (.int (x - y) :: st) u) : gx_Wc E nL pc lv (.int y :: .int x :: st) u := fun H locs ls hl hw hs => lv_isub X.1 X.2.1 hdg (k H locs ls hl hw hs)
theorem gx_imul (X : gx_X E cc nL own ret) {x y : Int32} (hdg : decode cc pc = .ok (.imul, 1))
    (k : gx_Wc E nL (pc + 1) lv (.int (x * y) :: st) u) : gx_Wc E nL pc lv (.int y :: .int x :: st) u := fun H locs ls hl hw hs => lv_imul X.1 X.2.1 hdg (k H locs ls hl hw hs)
theorem gx_iand (X : gx_X E cc nL own ret) {x y : Int32} (hdg : decode cc pc = .ok (.iand, 1))
    (k : gx_Wc E nL (pc + 1) lv (.int (x &&& y) :: st) u) : gx_Wc E nL pc lv (.int y :: .int x :: st) u := fun H locs ls hl hw hs => lv_iand X.1 X.2.1 hdg (k H locs ls hl hw hs)
theorem gx_ior (X : gx_X E cc nL own ret) {x y : Int32} (hdg : decode cc pc = .ok (.ior, 1))
    (k : gx_Wc E nL (pc + 1) lv (.int (x ||| y) :: st) u) : gx_Wc E nL pc lv (.int y :: .int x :: st) u := fun H locs ls hl hw hs => lv_ior X.1 X.2.1 hdg (k H locs ls hl hw hs)
theorem gx_ixor (X : gx_X E cc nL own ret) {x y : Int32} (hdg : decode cc pc = .ok (.ixor, 1))
    (k : gx_Wc E nL (pc + 1) lv (.int (x ^^^ y) :: st) u) : gx_Wc E nL pc lv (.int y :: .int x :: st) u := fun H locs ls hl hw hs => lv_ixor X.1 X.2.1 hdg (k H locs ls hl hw hs)
theorem gx_ishl (X : gx_X E cc nL own ret) {x y : Int32} (hdg : decode cc pc = .ok (.ishl, 1))
    (k : gx_Wc E nL (pc + 1) lv (.int (x <<< (y &&& 31)) :: st) u) : gx_Wc E nL pc lv (.int y :: .int x :: st) u := fun H locs ls hl hw hs => lv_ishl X.1 X.2.1 hdg (k H locs ls hl hw hs)
theorem gx_ishr (X : gx_X E cc nL own ret) {x y : Int32} (hdg : decode cc pc = .ok (.ishr, 1))
    (k : gx_Wc E nL (pc + 1) lv (.int (x >>> (y &&& 31)) :: st) u) : gx_Wc E nL pc lv (.int y :: .int x :: st) u := fun H locs ls hl hw hs => lv_ishr X.1 X.2.1 hdg (k H locs ls hl hw hs)
theorem gx_idiv (X : gx_X E cc nL own ret) {x y : Int32} (hdg : decode cc pc = .ok (.idiv, 1)) (hne : ¬ y = 0)
    (k : gx_Wc E nL (pc + 1) lv (.int (x / y) :: st) u) : gx_Wc E nL pc lv (.int y :: .int x :: st) u := fun H locs ls hl hw hs => lv_idiv X.1 X.2.1 hdg hne (k H locs ls hl hw hs)
theorem gx_irem (X : gx_X E cc nL own ret) {x y : Int32} (hdg : decode cc pc = .ok (.irem, 1)) (hne : ¬ y = 0)
    (k : gx_Wc E nL (pc + 1) lv (.int (x - x / y * y) :: st) u) : gx_Wc E nL pc lv (.int y :: .int x :: st) u := fun H locs ls hl hw hs => lv_irem X.1 X.2.1 hdg hne (k H locs ls hl hw hs)
theorem gx_ineg (X : gx_X E cc nL own ret) {x : Int32} (hdg : decode cc pc = .ok (.ineg, 1))
    (k : gx_Wc E nL (pc + 1) lv (.int (-x) :: st) u) : gx_Wc E nL pc lv (.int x :: st) u := fun H locs ls hl hw hs => lv_ineg X.1 X.2.1 hdg (k H locs ls hl hw hs)
theorem gx_iushr (X : gx_X E cc nL own ret) {x y v : Int32} (hdg : decode cc pc = .ok (.iushr, 1)) (hv : (x.toUInt32 >>> (y.toUInt32 &&& Int32.toUInt32 31)).toInt32 = v)
    (k : gx_Wc E nL (pc + 1) lv (.int v :: st) u) : gx_Wc E nL pc lv (.int y :: .int x :: st) u := fun H locs ls hl hw hs => lv_iushr X.1 X.2.1 hdg hv (k H locs ls hl hw hs)
theorem gx_ladd (X : gx_X E cc nL own ret) {x y : Int64} (hdg : decode cc pc = .ok (.ladd, 1))
    (k : gx_Wc E nL (pc + 1) lv (.long (x + y) :: st) u) : gx_Wc E nL pc lv (.long y :: .long x :: st) u := fun H locs ls hl hw hs => lv_ladd X.1 X.2.1 hdg (k H locs ls hl hw hs)
theorem gx_lsub (X : gx_X E cc nL own ret) {x y : Int64} (hdg : decode cc pc = .ok (.lsub, 1))
    (k : gx_Wc E nL (pc + 1) lv (.long (x - y) :: st) u) : gx_Wc E nL pc lv (.long y :: .long x :: st) u := fun H locs ls hl hw hs => lv_lsub X.1 X.2.1 hdg (k H locs ls hl hw hs)
theorem gx_lmul (X : gx_X E cc nL own ret) {x y : Int64} (hdg : decode cc pc = .ok (.lmul, 1))
    (k : gx_Wc E nL (pc + 1) lv (.long (x * y) :: st) u) : gx_Wc E nL pc lv (.long y :: .long x :: st) u := fun H locs ls hl hw hs => lv_lmul X.1 X.2.1 hdg (k H locs ls hl hw hs)
theorem gx_land (X : gx_X E cc nL own ret) {x y : Int64} (hdg : decode cc pc = .ok (.land, 1))
    (k : gx_Wc E nL (pc + 1) lv (.long (x &&& y) :: st) u) : gx_Wc E nL pc lv (.long y :: .long x :: st) u := fun H locs ls hl hw hs => lv_land X.1 X.2.1 hdg (k H locs ls hl hw hs)
theorem gx_lor (X : gx_X E cc nL own ret) {x y : Int64} (hdg : decode cc pc = .ok (.lor, 1))
    (k : gx_Wc E nL (pc + 1) lv (.long (x ||| y) :: st) u) : gx_Wc E nL pc lv (.long y :: .long x :: st) u := fun H locs ls hl hw hs => lv_lor X.1 X.2.1 hdg (k H locs ls hl hw hs)
theorem gx_lxor (X : gx_X E cc nL own ret) {x y : Int64} (hdg : decode cc pc = .ok (.lxor, 1))
    (k : gx_Wc E nL (pc + 1) lv (.long (x ^^^ y) :: st) u) : gx_Wc E nL pc lv (.long y :: .long x :: st) u := fun H locs ls hl hw hs => lv_lxor X.1 X.2.1 hdg (k H locs ls hl hw hs)
theorem gx_ldiv (X : gx_X E cc nL own ret) {x y : Int64} (hdg : decode cc pc = .ok (.ldiv, 1)) (hne : ¬ y = 0)
    (k : gx_Wc E nL (pc + 1) lv (.long (x / y) :: st) u) : gx_Wc E nL pc lv (.long y :: .long x :: st) u := fun H locs ls hl hw hs => lv_ldiv X.1 X.2.1 hdg hne (k H locs ls hl hw hs)
theorem gx_lrem (X : gx_X E cc nL own ret) {x y : Int64} (hdg : decode cc pc = .ok (.lrem, 1)) (hne : ¬ y = 0)
    (k : gx_Wc E nL (pc + 1) lv (.long (x - x / y * y) :: st) u) : gx_Wc E nL pc lv (.long y :: .long x :: st) u := fun H locs ls hl hw hs => lv_lrem X.1 X.2.1 hdg hne (k H locs ls hl hw hs)
theorem gx_lushr (X : gx_X E cc nL own ret) {x v : Int64} {y : Int32} (hdg : decode cc pc = .ok (.lushr, 1)) (hv : (x.toUInt64 >>> (y.toInt64.toUInt64 &&& Int64.toUInt64 63)).toInt64 = v)
    (k : gx_Wc E nL (pc + 1) lv (.long v :: st) u) : gx_Wc E nL pc lv (.int y :: .long x :: st) u := fun H locs ls hl hw hs => lv_lushr X.1 X.2.1 hdg hv (k H locs ls hl hw hs)
theorem gx_lshl (X : gx_X E cc nL own ret) {x v : Int64} {y : Int32} (hdg : decode cc pc = .ok (.lshl, 1)) (hv : x <<< (y.toInt64 &&& 63) = v)
    (k : gx_Wc E nL (pc + 1) lv (.long v :: st) u) : gx_Wc E nL pc lv (.int y :: .long x :: st) u := fun H locs ls hl hw hs => lv_lshl X.1 X.2.1 hdg hv (k H locs ls hl hw hs)
theorem gx_lshr (X : gx_X E cc nL own ret) {x v : Int64} {y : Int32} (hdg : decode cc pc = .ok (.lshr, 1)) (hv : x >>> (y.toInt64 &&& 63) = v)
    (k : gx_Wc E nL (pc + 1) lv (.long v :: st) u) : gx_Wc E nL pc lv (.int y :: .long x :: st) u := fun H locs ls hl hw hs => lv_lshr X.1 X.2.1 hdg hv (k H locs ls hl hw hs)
theorem gx_i2l (X : gx_X E cc nL own ret) {x : Int32} {v : Int64} (hdg : decode cc pc = .ok (.i2l, 1)) (hv : x.toInt64 = v)
    (k : gx_Wc E nL (pc + 1) lv (.long v :: st) u) : gx_Wc E nL pc lv (.int x :: st) u := fun H locs ls hl hw hs => lv_i2l X.1 X.2.1 hdg hv (k H locs ls hl hw hs)
theorem gx_l2i (X : gx_X E cc nL own ret) {x : Int64} {v : Int32} (hdg : decode cc pc = .ok (.l2i, 1)) (hv : x.toInt32 = v)
    (k : gx_Wc E nL (pc + 1) lv (.int v :: st) u) : gx_Wc E nL pc lv (.long x :: st) u := fun H locs ls hl hw hs => lv_l2i X.1 X.2.1 hdg hv (k H locs ls hl hw hs)
theorem gx_i2b (X : gx_X E cc nL own ret) {x v : Int32} (hdg : decode cc pc = .ok (.i2b, 1)) (hv : x.toInt8.toInt32 = v)
    (k : gx_Wc E nL (pc + 1) lv (.int v :: st) u) : gx_Wc E nL pc lv (.int x :: st) u := fun H locs ls hl hw hs => lv_i2b X.1 X.2.1 hdg hv (k H locs ls hl hw hs)
theorem gx_dup (X : gx_X E cc nL own ret) {a : Value} (hdg : decode cc pc = .ok (.dup, 1)) (h1 : a.category = 1)
    (k : gx_Wc E nL (pc + 1) lv (a :: a :: st) u) : gx_Wc E nL pc lv (a :: st) u := fun H locs ls hl hw hs => lv_dup X.1 X.2.1 hdg h1 (k H locs ls hl hw hs)
theorem gx_pop (X : gx_X E cc nL own ret) {a : Value} (hdg : decode cc pc = .ok (.pop, 1)) (h1 : a.category = 1)
    (k : gx_Wc E nL (pc + 1) lv st u) : gx_Wc E nL pc lv (a :: st) u := fun H locs ls hl hw hs => lv_pop X.1 X.2.1 hdg h1 (k H locs ls hl hw hs)
theorem gx_dup_x1 (X : gx_X E cc nL own ret) {a b : Value} (hdg : decode cc pc = .ok (.dup_x1, 1)) (h1 : a.category = 1) (h2 : b.category = 1)
    (k : gx_Wc E nL (pc + 1) lv (a :: b :: a :: st) u) : gx_Wc E nL pc lv (a :: b :: st) u := fun H locs ls hl hw hs => lv_dup_x1 X.1 X.2.1 hdg h1 h2 (k H locs ls hl hw hs)
theorem gx_dup_x2 (X : gx_X E cc nL own ret) {a b d : Value} (hdg : decode cc pc = .ok (.dup_x2, 1)) (h1 : a.category = 1) (h2 : b.category = 1) (h3 : d.category = 1)
    (k : gx_Wc E nL (pc + 1) lv (a :: b :: d :: a :: st) u) : gx_Wc E nL pc lv (a :: b :: d :: st) u := fun H locs ls hl hw hs => lv_dup_x2 X.1 X.2.1 hdg h1 h2 h3 (k H locs ls hl hw hs)
theorem gx_dup2_11 (X : gx_X E cc nL own ret) {a b : Value} (hdg : decode cc pc = .ok (.dup2, 1)) (h1 : a.category = 1) (h2 : b.category = 1)
    (k : gx_Wc E nL (pc + 1) lv (a :: b :: a :: b :: st) u) : gx_Wc E nL pc lv (a :: b :: st) u := fun H locs ls hl hw hs => lv_dup2_11 X.1 X.2.1 hdg h1 h2 (k H locs ls hl hw hs)
theorem gx_dup2_2 (X : gx_X E cc nL own ret) {a : Value} (hdg : decode cc pc = .ok (.dup2, 1)) (h1 : a.category = 2)
    (k : gx_Wc E nL (pc + 1) lv (a :: a :: st) u) : gx_Wc E nL pc lv (a :: st) u := fun H locs ls hl hw hs => lv_dup2_2 X.1 X.2.1 hdg h1 (k H locs ls hl hw hs)
theorem gx_lcmp (X : gx_X E cc nL own ret) {x y : Int64} (hdg : decode cc pc = .ok (.lcmp, 1))
    (k : gx_Wc E nL (pc + 1) lv (.int (lg_cmp x y) :: st) u) : gx_Wc E nL pc lv (.long y :: .long x :: st) u := fun H locs ls hl hw hs => W.lcmp X.1 X.2.1 hdg (k H locs ls hl hw hs)
theorem gx_goto (X : gx_X E cc nL own ret) {off : Int} {tgt : Nat} (hdg : decode cc pc = .ok (.goto off, 3)) (ht : (pc : Int) + off = (tgt : Int))
    (k : gx_Wc E nL tgt lv st u) : gx_Wc E nL pc lv st u := fun H locs ls hl hw hs => lv_goto X.1 X.2.1 hdg ht (k H locs ls hl hw hs)
theorem gx_ldc (X : gx_X E cc nL own ret) {idx : Nat} {v : Int32} (hm : Cond.constant own idx v ∈ gx_TB) (hdg : decode cc pc = .ok (.ldc idx, 2))
    (k : gx_Wc E nL (pc + 2) lv (.int v :: st) u) : gx_Wc E nL pc lv st u := fun H locs ls hl hw hs => lv_ldc X.1 X.2.1 X.2.2.2.1 (X.2.2.2.2.1 _ hm) hdg (k H locs ls hl hw hs)
theorem gx_ldc2 (X : gx_X E cc nL own ret) {idx : Nat} {v : Int64} (hm : Cond.constantLong own idx v ∈ gx_TB) (hdg : decode cc pc = .ok (.ldc2_w idx, 3))
    (k : gx_Wc E nL (pc + 3) lv (.long v :: st) u) : gx_Wc E nL pc lv st u := fun H locs ls hl hw hs => lv_ldc2 X.1 X.2.1 X.2.2.2.1 (X.2.2.2.2.1 _ hm) hdg (k H locs ls hl hw hs)
theorem gx_if_eq (X : gx_X E cc nL own ret) {x : Int32} {off : Int} {tgt : Nat} (hdg : decode cc pc = .ok (.ifCond .eq off, 3)) (ht : (pc : Int) + off = (tgt : Int))
    (kt : x = 0 → gx_Wc E nL tgt lv st u) (kf : ¬ x = 0 → gx_Wc E nL (pc + 3) lv st u) : gx_Wc E nL pc lv (.int x :: st) u := fun H locs ls hl hw hs => lv_if_eq X.1 X.2.1 hdg ht (fun q => kt q H locs ls hl hw hs) (fun q => kf q H locs ls hl hw hs)
theorem gx_icmp_eq (X : gx_X E cc nL own ret) {x y : Int32} {off : Int} {tgt : Nat} (hdg : decode cc pc = .ok (.if_icmp .eq off, 3)) (ht : (pc : Int) + off = (tgt : Int))
    (kt : x = y → gx_Wc E nL tgt lv st u) (kf : ¬ x = y → gx_Wc E nL (pc + 3) lv st u) : gx_Wc E nL pc lv (.int y :: .int x :: st) u := fun H locs ls hl hw hs => lv_icmp_eq X.1 X.2.1 hdg ht (fun q => kt q H locs ls hl hw hs) (fun q => kf q H locs ls hl hw hs)
theorem gx_if_ne (X : gx_X E cc nL own ret) {x : Int32} {off : Int} {tgt : Nat} (hdg : decode cc pc = .ok (.ifCond .ne off, 3)) (ht : (pc : Int) + off = (tgt : Int))
    (kt : ¬ x = 0 → gx_Wc E nL tgt lv st u) (kf : x = 0 → gx_Wc E nL (pc + 3) lv st u) : gx_Wc E nL pc lv (.int x :: st) u := fun H locs ls hl hw hs => lv_if_ne X.1 X.2.1 hdg ht (fun q => kt q H locs ls hl hw hs) (fun q => kf q H locs ls hl hw hs)
theorem gx_icmp_ne (X : gx_X E cc nL own ret) {x y : Int32} {off : Int} {tgt : Nat} (hdg : decode cc pc = .ok (.if_icmp .ne off, 3)) (ht : (pc : Int) + off = (tgt : Int))
    (kt : ¬ x = y → gx_Wc E nL tgt lv st u) (kf : x = y → gx_Wc E nL (pc + 3) lv st u) : gx_Wc E nL pc lv (.int y :: .int x :: st) u := fun H locs ls hl hw hs => lv_icmp_ne X.1 X.2.1 hdg ht (fun q => kt q H locs ls hl hw hs) (fun q => kf q H locs ls hl hw hs)
theorem gx_if_lt (X : gx_X E cc nL own ret) {x : Int32} {off : Int} {tgt : Nat} (hdg : decode cc pc = .ok (.ifCond .lt off, 3)) (ht : (pc : Int) + off = (tgt : Int))
    (kt : x < 0 → gx_Wc E nL tgt lv st u) (kf : ¬ x < 0 → gx_Wc E nL (pc + 3) lv st u) : gx_Wc E nL pc lv (.int x :: st) u := fun H locs ls hl hw hs => lv_if_lt X.1 X.2.1 hdg ht (fun q => kt q H locs ls hl hw hs) (fun q => kf q H locs ls hl hw hs)
theorem gx_icmp_lt (X : gx_X E cc nL own ret) {x y : Int32} {off : Int} {tgt : Nat} (hdg : decode cc pc = .ok (.if_icmp .lt off, 3)) (ht : (pc : Int) + off = (tgt : Int))
    (kt : x < y → gx_Wc E nL tgt lv st u) (kf : ¬ x < y → gx_Wc E nL (pc + 3) lv st u) : gx_Wc E nL pc lv (.int y :: .int x :: st) u := fun H locs ls hl hw hs => lv_icmp_lt X.1 X.2.1 hdg ht (fun q => kt q H locs ls hl hw hs) (fun q => kf q H locs ls hl hw hs)
theorem gx_if_ge (X : gx_X E cc nL own ret) {x : Int32} {off : Int} {tgt : Nat} (hdg : decode cc pc = .ok (.ifCond .ge off, 3)) (ht : (pc : Int) + off = (tgt : Int))
    (kt : 0 ≤ x → gx_Wc E nL tgt lv st u) (kf : ¬ 0 ≤ x → gx_Wc E nL (pc + 3) lv st u) : gx_Wc E nL pc lv (.int x :: st) u := fun H locs ls hl hw hs => lv_if_ge X.1 X.2.1 hdg ht (fun q => kt q H locs ls hl hw hs) (fun q => kf q H locs ls hl hw hs)
theorem gx_icmp_ge (X : gx_X E cc nL own ret) {x y : Int32} {off : Int} {tgt : Nat} (hdg : decode cc pc = .ok (.if_icmp .ge off, 3)) (ht : (pc : Int) + off = (tgt : Int))
    (kt : y ≤ x → gx_Wc E nL tgt lv st u) (kf : ¬ y ≤ x → gx_Wc E nL (pc + 3) lv st u) : gx_Wc E nL pc lv (.int y :: .int x :: st) u := fun H locs ls hl hw hs => lv_icmp_ge X.1 X.2.1 hdg ht (fun q => kt q H locs ls hl hw hs) (fun q => kf q H locs ls hl hw hs)
theorem gx_if_gt (X : gx_X E cc nL own ret) {x : Int32} {off : Int} {tgt : Nat} (hdg : decode cc pc = .ok (.ifCond .gt off, 3)) (ht : (pc : Int) + off = (tgt : Int))
    (kt : 0 < x → gx_Wc E nL tgt lv st u) (kf : ¬ 0 < x → gx_Wc E nL (pc + 3) lv st u) : gx_Wc E nL pc lv (.int x :: st) u := fun H locs ls hl hw hs => lv_if_gt X.1 X.2.1 hdg ht (fun q => kt q H locs ls hl hw hs) (fun q => kf q H locs ls hl hw hs)
theorem gx_icmp_gt (X : gx_X E cc nL own ret) {x y : Int32} {off : Int} {tgt : Nat} (hdg : decode cc pc = .ok (.if_icmp .gt off, 3)) (ht : (pc : Int) + off = (tgt : Int))
    (kt : y < x → gx_Wc E nL tgt lv st u) (kf : ¬ y < x → gx_Wc E nL (pc + 3) lv st u) : gx_Wc E nL pc lv (.int y :: .int x :: st) u := fun H locs ls hl hw hs => lv_icmp_gt X.1 X.2.1 hdg ht (fun q => kt q H locs ls hl hw hs) (fun q => kf q H locs ls hl hw hs)
theorem gx_if_le (X : gx_X E cc nL own ret) {x : Int32} {off : Int} {tgt : Nat} (hdg : decode cc pc = .ok (.ifCond .le off, 3)) (ht : (pc : Int) + off = (tgt : Int))
    (kt : x ≤ 0 → gx_Wc E nL tgt lv st u) (kf : ¬ x ≤ 0 → gx_Wc E nL (pc + 3) lv st u) : gx_Wc E nL pc lv (.int x :: st) u := fun H locs ls hl hw hs => lv_if_le X.1 X.2.1 hdg ht (fun q => kt q H locs ls hl hw hs) (fun q => kf q H locs ls hl hw hs)
theorem gx_icmp_le (X : gx_X E cc nL own ret) {x y : Int32} {off : Int} {tgt : Nat} (hdg : decode cc pc = .ok (.if_icmp .le off, 3)) (ht : (pc : Int) + off = (tgt : Int))
    (kt : x ≤ y → gx_Wc E nL tgt lv st u) (kf : ¬ x ≤ y → gx_Wc E nL (pc + 3) lv st u) : gx_Wc E nL pc lv (.int y :: .int x :: st) u := fun H locs ls hl hw hs => lv_icmp_le X.1 X.2.1 hdg ht (fun q => kt q H locs ls hl hw hs) (fun q => kf q H locs ls hl hw hs)
end GX
theorem gx_nf_eq {ci N : Nat} {C : String} {T : u_T} (h : classes[ci]? = some (C, T, N)) : gx_nf ci = N := by
  unfold gx_nf
  rw [h]
theorem gx_at.kept {Z : gx_Z} {u u' : gx_S} {i : Nat} {H H' : Heap} (h : gx_at Z u i H) (hq : H'[Z.2.1 i]? = H[Z.2.1 i]?) (hf : ∀ ci k, gx_fv Z u' i ci k = gx_fv Z u i ci k) (ha : gx_a u' i = gx_a u i) : gx_at Z u' i H' := by
  unfold gx_at at h ⊢
  cases hkd : gx_kd i with
  | inl q =>
    simp only [hkd] at h ⊢
    obtain ⟨h1, h2, h3⟩ := h
    refine ⟨fun j hj => by rw [ha]; exact h1 j hj, fun hi => by rw [hq, ha]; exact h2 hi, fun hi => ?_⟩
    obtain ⟨cell, g1, g2⟩ := h3 hi
    exact ⟨cell, by rw [hq]; exact g1, by rw [ha]; exact g2⟩
  | inr ci =>
    simp only [hkd] at h ⊢
    exact (h.kept hq).to (fun k _ => (hf ci k).symm)
theorem gx_at.ro {Z : gx_Z} {u : gx_S} {i : Nat} {H : Heap} {q : Nat × FieldType} (h : gx_at Z u i H) (hk : gx_kd i = .inl q) : gx_ro Z u i q.1 H := by
  unfold gx_at at h
  simp only [hk] at h
  obtain ⟨h1, h2, h3⟩ := h
  by_cases hi : i < gx_Nw
  · refine ⟨_, h2 hi, rfl, fun h => (by cases h), fun k h => (by cases h), ?_, fun j hj => ?_⟩
    · exact arrV_size _ _ _
    · exact arrV_read _ _ hj
  · exact h3 hi
theorem gx_at.ex {Z : gx_Z} {u : gx_S} {i : Nat} {H : Heap} {q : Nat × FieldType} (h : gx_at Z u i H) (hk : gx_kd i = .inl q) (hi : i < gx_Nw) : (∀ j, j < q.1 → fits q.2 (.int (gx_a u i j)) = true) ∧ H[Z.2.1 i]? = some (vp_cell (Z.2.2 i) (q.1, .inl (gx_a u i))) := by
  unfold gx_at at h
  simp only [hk] at h
  exact ⟨h.1, h.2.1 hi⟩
theorem gx_at.fit {Z : gx_Z} {u : gx_S} {i : Nat} {H : Heap} {q : Nat × FieldType} (h : gx_at Z u i H) (hk : gx_kd i = .inl q) : ∀ j, j < q.1 → fits q.2 (.int (gx_a u i j)) = true := by
  unfold gx_at at h
  simp only [hk] at h
  exact h.1
theorem gx_at.mk {Z : gx_Z} {u : gx_S} {i : Nat} {H : Heap} {q : Nat × FieldType} (hk : gx_kd i = .inl q) (hi : i < gx_Nw) (h1 : ∀ j, j < q.1 → fits q.2 (.int (gx_a u i j)) = true) (h2 : H[Z.2.1 i]? = some (vp_cell (Z.2.2 i) (q.1, .inl (gx_a u i)))) : gx_at Z u i H := by
  unfold gx_at
  simp only [hk]
  exact ⟨h1, fun _ => h2, fun h => absurd hi h⟩
theorem gx_fv_pa (Z : gx_Z) (u : gx_S) (a : Nat) (f : Nat → Int32) (o ci k : Nat) : gx_fv Z (gx_pa u a f) o ci k = gx_fv Z u o ci k := rfl
/-- one array's contents are new: the rest stays -/
theorem gx_W.pa {Z : gx_Z} {u : gx_S} {H H' : Heap} {a : Nat} {f : Nat → Int32} {q : Nat × FieldType} (hinj : ∀ i j, i < gx_N → j < gx_N → Z.2.1 i = Z.2.1 j → i = j) (hw : gx_W Z u H) (hk : gx_kd a = .inl q) (hi : a < gx_Nw) (oq : ∀ x, x ≠ Z.2.1 a → H'[x]? = H[x]?) (h1 : ∀ j, j < q.1 → fits q.2 (.int (f j)) = true) (h2 : H'[Z.2.1 a]? = some (vp_cell (Z.2.2 a) (q.1, .inl f))) : gx_W Z (gx_pa u a f) H' := by
  intro i hiN
  by_cases e : i = a
  · subst e
    refine gx_at.mk hk hi (fun j hj => ?_) ?_
    · rw [gx_a_pa, if_pos rfl]; exact h1 j hj
    · rw [gx_a_pa, if_pos rfl]; exact h2
  · refine (hw i hiN).kept (oq _ (fun h => e (hinj i a hiN (Nat.lt_of_lt_of_le hi gx_NwN) h))) (fun ci k => gx_fv_pa Z u a f i ci k) ?_
    rw [gx_a_pa, if_neg e]
section GY
variable {E : gx_E} {cc : ByteArray} {nL : Nat} {own : String} {ret : Option FieldType} {pc : Nat} {lv : List (Nat × Value)} {st : List Value} {u : gx_S}
theorem gx_get (X : gx_X E cc nL own ret) {o ci idx N : Nat} {C : String} {T : u_T} (hk : gx_isO o ci) (hc : classes[ci]? = some (C, T, N)) (hin : ∀ w ∈ u_ws C T N, w ∈ gx_TB) (k : Nat) (hkN : k < N) (hlink : Cond.fieldLink own idx (T k).1 (T k).2.1 (T k).2.2.1 ∈ gx_TB) {v : Value} (hv : gx_fv (ex_Z E) u o ci k = v) (hdg : decode cc pc = .ok (.getfield idx, 3))
    (kk : gx_Wc E nL (pc + 3) lv (v :: st) u) : gx_Wc E nL pc lv (.ref (ex_ad E o) :: st) u := by
  intro H locs ls hl hw hs
  have h1 := hw o (Nat.lt_of_lt_of_le hk.1 gx_NwN)
  unfold gx_at at h1
  simp only [hk.2] at h1
  obtain ⟨cell, q1, q2, q3, q4⟩ := h1
  obtain ⟨hS, hfc, kC, hkC, hkind⟩ := X.2.2.2.2.2.1.1 ci _ hc
  obtain ⟨cf, kf, fi, f, hi, hsl⟩ := hS k hkN
  refine W.getf X.1 X.2.1 X.2.2.2.1 (X.2.2.2.2.1 _ hlink) hi (u_facts hfc hkC (u_lays X.2.2.2.2.1 hin hkN) hi).1 q1 (by rw [q3]; exact fun h => by cases h) (v := v) ?_ rfl rfl hdg (kk H locs ls hl hw hs)
  rw [hsl, q4 k (by rw [gx_nf_eq hc]; exact hkN), hv]
theorem gx_putG (X : gx_X E cc nL own ret) {o ci idx N : Nat} {C : String} {T : u_T} (hk : gx_isO o ci) (hc : classes[ci]? = some (C, T, N)) (hin : ∀ w ∈ u_ws C T N, w ∈ gx_TB) (hty : ∀ k, k < N → parseFieldDescriptor (T k).2.2.1 = some (gx_ty ci k)) (hnm : ∀ a, a < N → ∀ b, b < N → a ≠ b → (T a).2.1 ≠ (T b).2.1) (k : Nat) (hkN : k < N) (hlink : Cond.fieldLink own idx (T k).1 (T k).2.1 (T k).2.2.1 ∈ gx_TB) (hfin : (T k).2.2.2 = false) {v : Value} (hn : narrow (gx_ty ci k) v = v) (hfit : fits (gx_ty ci k) v = true) {u' : gx_S} (hv : gx_fv (ex_Z E) u' o ci k = v) (ho : ∀ o' ci' k', ¬ (o' = o ∧ k' = k) → gx_fv (ex_Z E) u' o' ci' k' = gx_fv (ex_Z E) u o' ci' k') (ha : ∀ o', gx_a u' o' = gx_a u o') (hdg : decode cc pc = .ok (.putfield idx, 3))
    (kk : gx_Wc E nL (pc + 3) lv st u') : gx_Wc E nL pc lv (v :: .ref (ex_ad E o) :: st) u := by
  intro H locs ls hl hw hs
  have hoN := Nat.lt_of_lt_of_le hk.1 gx_NwN
  have hnf := gx_nf_eq hc
  have h1 := hw o hoN
  unfold gx_at at h1
  simp only [hk.2, hnf] at h1
  obtain ⟨cell, q1, q2, q3, q4⟩ := h1
  have hap := va_apart (own := own) (tys := []) (D := (ex_Z E).1) (cl := classes) X.2.2.2.2.1 hin (gx_ty ci) hty hnm ⟨X.2.2.2.2.2.1.1, fun k q h => by simp at h⟩ hc
  obtain ⟨hS, hfc, kC, hkC, hkind⟩ := X.2.2.2.2.2.1.1 ci _ hc
  obtain ⟨cf, kf, fi, f, hi, hsl⟩ := hS k hkN
  have hlay := X.2.2.2.2.1 _ (hin _ (u_in_lay hkN))
  unfold u_lay at hlay
  rw [if_neg (by rw [hfin]; decide)] at hlay
  have hst := (u_facts hfc hkC (u_lays X.2.2.2.2.1 hin hkN) hi).1
  have h6 := u_store hfc hkC hkind hlay hi (hty k hkN) hn hfit
  refine W.putK X.1 X.2.1 (f := f) ⟨X.2.2.2.1, X.2.2.2.2.1 _ hlink, ⟨_, _, _, hi⟩, hst⟩ (by rw [q2]; exact h6) q1 q3 (by rw [hsl]; exact k2_hasslot (q4 k hkN)) rfl rfl hdg fun H' e1 e2 e3 => ?_
  rw [hsl] at e1 ⊢
  refine kk H' _ ls hl (fun i hi' => ?_) (hs.put e2 e3 ⟨o, hk.1, rfl⟩)
  by_cases hio : i = o
  · subst hio
    unfold gx_at
    simp only [hk.2, hnf]
    refine t_OB.to (V := updV (gx_fv (ex_Z E) u i ci) k v) ⟨_, e1, q2, q3, t_set q4 hap hkN v⟩ (fun j _ => ?_)
    by_cases hj : j = k
    · subst hj; simp [updV, hv]
    · simp [updV, hj]; exact (ho i ci j (fun h => hj h.2)).symm
  · exact (hw i hi').kept (e3 _ (fun h => hio (X.2.2.2.2.2.1.2.2.1 i o hi' hoN h))) (fun ci' k' => ho i ci' k' (fun h => hio h.1)) (ha i)
theorem gx_fv_pi {Z : gx_Z} {u : gx_S} {o k : Nat} {x : Int32} (o' ci' k' : Nat) (h : ¬ (o' = o ∧ k' = k)) : gx_fv Z (gx_pi u o k x) o' ci' k' = gx_fv Z u o' ci' k' := by
  unfold gx_fv
  rw [gx_i_pi, if_neg h, gx_l_pi, gx_r_pi]
theorem gx_fv_pl {Z : gx_Z} {u : gx_S} {o k : Nat} {x : Int64} (o' ci' k' : Nat) (h : ¬ (o' = o ∧ k' = k)) : gx_fv Z (gx_pl u o k x) o' ci' k' = gx_fv Z u o' ci' k' := by
  unfold gx_fv
  rw [gx_l_pl, if_neg h, gx_i_pl, gx_r_pl]
theorem gx_fv_pr {Z : gx_Z} {u : gx_S} {o k : Nat} {x : Nat} (o' ci' k' : Nat) (h : ¬ (o' = o ∧ k' = k)) : gx_fv Z (gx_pr u o k x) o' ci' k' = gx_fv Z u o' ci' k' := by
  unfold gx_fv
  rw [gx_r_pr, if_neg h, gx_i_pr, gx_l_pr]
theorem gx_put (X : gx_X E cc nL own ret) {o ci idx N : Nat} {C : String} {T : u_T} (hk : gx_isO o ci) (hc : classes[ci]? = some (C, T, N)) (hin : ∀ w ∈ u_ws C T N, w ∈ gx_TB) (hty : ∀ k, k < N → parseFieldDescriptor (T k).2.2.1 = some (gx_ty ci k)) (hnm : ∀ a, a < N → ∀ b, b < N → a ≠ b → (T a).2.1 ≠ (T b).2.1) (k : Nat) (hkN : k < N) (hlink : Cond.fieldLink own idx (T k).1 (T k).2.1 (T k).2.2.1 ∈ gx_TB) (hfin : (T k).2.2.2 = false) {x : Int32} (hn : narrow (gx_ty ci k) (.int x) = .int x) (hfit : fits (gx_ty ci k) (.int x) = true) (hv : ∀ z : gx_S, gx_fv (ex_Z E) z o ci k = .int (gx_i z o k)) (hdg : decode cc pc = .ok (.putfield idx, 3))
    (kk : gx_Wc E nL (pc + 3) lv st (gx_pi u o k x)) : gx_Wc E nL pc lv (.int x :: .ref (ex_ad E o) :: st) u :=
  gx_putG X hk hc hin hty hnm k hkN hlink hfin hn hfit (by rw [hv, gx_i_pi, if_pos ⟨rfl, rfl⟩]) gx_fv_pi (fun _ => rfl) hdg kk
theorem gx_putl (X : gx_X E cc nL own ret) {o ci idx N : Nat} {C : String} {T : u_T} (hk : gx_isO o ci) (hc : classes[ci]? = some (C, T, N)) (hin : ∀ w ∈ u_ws C T N, w ∈ gx_TB) (hty : ∀ k, k < N → parseFieldDescriptor (T k).2.2.1 = some (gx_ty ci k)) (hnm : ∀ a, a < N → ∀ b, b < N → a ≠ b → (T a).2.1 ≠ (T b).2.1) (k : Nat) (hkN : k < N) (hlink : Cond.fieldLink own idx (T k).1 (T k).2.1 (T k).2.2.1 ∈ gx_TB) (hfin : (T k).2.2.2 = false) {x : Int64} (hn : narrow (gx_ty ci k) (.long x) = .long x) (hfit : fits (gx_ty ci k) (.long x) = true) (hv : ∀ z : gx_S, gx_fv (ex_Z E) z o ci k = .long (gx_l z o k)) (hdg : decode cc pc = .ok (.putfield idx, 3))
    (kk : gx_Wc E nL (pc + 3) lv st (gx_pl u o k x)) : gx_Wc E nL pc lv (.long x :: .ref (ex_ad E o) :: st) u :=
  gx_putG X hk hc hin hty hnm k hkN hlink hfin hn hfit (by rw [hv, gx_l_pl, if_pos ⟨rfl, rfl⟩]) gx_fv_pl (fun _ => rfl) hdg kk
theorem gx_putr (X : gx_X E cc nL own ret) {o ci idx N : Nat} {C : String} {T : u_T} (hk : gx_isO o ci) (hc : classes[ci]? = some (C, T, N)) (hin : ∀ w ∈ u_ws C T N, w ∈ gx_TB) (hty : ∀ k, k < N → parseFieldDescriptor (T k).2.2.1 = some (gx_ty ci k)) (hnm : ∀ a, a < N → ∀ b, b < N → a ≠ b → (T a).2.1 ≠ (T b).2.1) (k : Nat) (hkN : k < N) (hlink : Cond.fieldLink own idx (T k).1 (T k).2.1 (T k).2.2.1 ∈ gx_TB) (hfin : (T k).2.2.2 = false) {x : Nat} (hn : narrow (gx_ty ci k) (.ref (ex_ad E x)) = .ref (ex_ad E x)) (hfit : fits (gx_ty ci k) (.ref (ex_ad E x)) = true) (hv : ∀ z : gx_S, gx_fv (ex_Z E) z o ci k = .ref (ex_ad E (gx_r z o k))) (hdg : decode cc pc = .ok (.putfield idx, 3))
    (kk : gx_Wc E nL (pc + 3) lv st (gx_pr u o k x)) : gx_Wc E nL pc lv (.ref (ex_ad E x) :: .ref (ex_ad E o) :: st) u :=
  gx_putG X hk hc hin hty hnm k hkN hlink hfin hn hfit (by rw [hv, gx_r_pr, if_pos ⟨rfl, rfl⟩]) gx_fv_pr (fun _ => rfl) hdg kk
theorem gx_iald (X : gx_X E cc nL own ret) {a : Nat} {i : Int32} (ha : gx_isR a .int) (hin : vp_in i (gx_len a)) (hdg : decode cc pc = .ok (.iaload, 1))
    (kk : gx_Wc E nL (pc + 1) lv (.int (gx_a u a i.toNatClampNeg) :: st) u) : gx_Wc E nL pc lv (.int i :: .ref (ex_ad E a) :: st) u := by
  intro H locs ls hl hw hs
  obtain ⟨cell, h1, h2, h3, h4, h5, h6⟩ := (hw a ha.1).ro ha.2
  have hlt : i.toNatClampNeg < gx_len a := Nat.not_le.mp fun q => hin (Or.inr q)
  exact W.iald (v := .int (gx_a u a i.toNatClampNeg)) X.1 X.2.1 h1 ⟨h4, by rw [h2]; exact X.2.2.2.2.2.1.2.1 a _ ha.1 ha.2⟩ h3 (by rw [h5]; exact hin) (h6 _ hlt) rfl rfl hdg (kk H locs ls hl hw hs)
theorem gx_bald (X : gx_X E cc nL own ret) {a : Nat} {i : Int32} (ha : gx_isR a .byte) (hin : vp_in i (gx_len a)) (hdg : decode cc pc = .ok (.baload, 1))
    (kk : gx_Wc E nL (pc + 1) lv (.int (gx_a u a i.toNatClampNeg) :: st) u) : gx_Wc E nL pc lv (.int i :: .ref (ex_ad E a) :: st) u := by
  intro H locs ls hl hw hs
  obtain ⟨cell, h1, h2, h3, h4, h5, h6⟩ := (hw a ha.1).ro ha.2
  have hlt : i.toNatClampNeg < gx_len a := Nat.not_le.mp fun q => hin (Or.inr q)
  exact W.bald (v := .int (gx_a u a i.toNatClampNeg)) X.1 X.2.1 h1 ⟨h4, by rw [h2]; exact X.2.2.2.2.2.1.2.1 a _ ha.1 ha.2⟩ h3 (by rw [h5]; exact hin) (h6 _ hlt) rfl rfl hdg (kk H locs ls hl hw hs)
theorem gx_alen (X : gx_X E cc nL own ret) {a : Nat} {ty : FieldType} (ha : gx_isR a ty) (hdg : decode cc pc = .ok (.arraylength, 1))
    (kk : gx_Wc E nL (pc + 1) lv (.int (nI (gx_len a)) :: st) u) : gx_Wc E nL pc lv (.ref (ex_ad E a) :: st) u := by
  intro H locs ls hl hw hs
  obtain ⟨cell, h1, h2, h3, h4, h5, h6⟩ := (hw a ha.1).ro ha.2
  exact W.alen (n := nI (gx_len a)) X.1 X.2.1 h1 ⟨h4, by rw [h2]; exact X.2.2.2.2.2.1.2.1 a _ ha.1 ha.2⟩ (by rw [h5]; rfl) rfl rfl hdg (kk H locs ls hl hw hs)
theorem gx_iast (X : gx_X E cc nL own ret) {a : Nat} {i x : Int32} (ha : gx_isA a .int) (hin : vp_in i (gx_len a)) (hdg : decode cc pc = .ok (.iastore, 1))
    (kk : gx_Wc E nL (pc + 1) lv st (gx_pa u a (upd (gx_a u a) i.toNatClampNeg x))) : gx_Wc E nL pc lv (.int x :: .int i :: .ref (ex_ad E a) :: st) u := by
  intro H locs ls hl hw hs
  obtain ⟨hf, hc⟩ := (hw a ha.r.1).ex ha.2 ha.1
  refine W.iast X.1 X.2.1 hc ⟨fun k h => (by cases h), X.2.2.2.2.2.1.2.1 a _ ha.r.1 ha.2⟩ (fun q => by cases q) (by show ¬ (i < 0 ∨ (arrV _ _ _).slots.size ≤ _); rw [arrV_size]; exact hin) rfl rfl hdg fun H1 e z oq => ?_
  refine kk H1 _ ls hl (gx_W.pa X.2.2.2.2.2.1.2.2.1 hw ha.2 ha.1 oq (fun j hj => rfl) ?_) (hs.put z oq ⟨a, ha.1, rfl⟩)
  rw [e, vp_cell_i, vp_cell_i, arrV_store]
  congr 2
  funext q
  by_cases hq : q = i.toNatClampNeg
  · subst hq
    simp [updV, upd]
  · simp [updV, upd, hq]
theorem gx_bast (X : gx_X E cc nL own ret) {a : Nat} {i x : Int32} (ha : gx_isA a .byte) (hin : vp_in i (gx_len a)) (hdg : decode cc pc = .ok (.bastore, 1))
    (kk : gx_Wc E nL (pc + 1) lv st (gx_pa u a (upd (gx_a u a) i.toNatClampNeg x.toInt8.toInt32))) : gx_Wc E nL pc lv (.int x :: .int i :: .ref (ex_ad E a) :: st) u := by
  intro H locs ls hl hw hs
  obtain ⟨hf, hc⟩ := (hw a ha.r.1).ex ha.2 ha.1
  refine W.bast X.1 X.2.1 hc ⟨fun k h => (by cases h), X.2.2.2.2.2.1.2.1 a _ ha.r.1 ha.2⟩ (fun q => by cases q) (by show ¬ (i < 0 ∨ (arrV _ _ _).slots.size ≤ _); rw [arrV_size]; exact hin) rfl rfl hdg fun H1 e z oq => ?_
  refine kk H1 _ ls hl (gx_W.pa X.2.2.2.2.2.1.2.2.1 hw ha.2 ha.1 oq (fun j hj => ?_) ?_) (hs.put z oq ⟨a, ha.1, rfl⟩)
  · unfold upd
    split
    · exact pk_fb x
    · exact hf j hj
  · rw [e, vp_cell_i, vp_cell_i, arrV_store]
    congr 2
    funext q
    by_cases hq : q = i.toNatClampNeg
    · subst hq
      simp [updV, upd, narrow]
    · simp [updV, upd, hq]
theorem gx_gets (X : gx_X E cc nL own ret) {C n d : String} {a idx : Nat} (hq : (C, n, d, a) ∈ gx_stat) (hlink : Cond.fieldLink own idx C n d ∈ gx_TB) (hdg : decode cc pc = .ok (.getstatic idx, 3))
    (kk : gx_Wc E nL (pc + 3) lv (.ref (ex_ad E a) :: st) u) : gx_Wc E nL pc lv st u := fun H locs ls hl hw hs =>
  va_gets X.1 X.2.1 (X.2.2.2.2.2.1.2.2.2.2 _ hq) hs X.2.2.2.1 (X.2.2.2.2.1 _ hlink) (fun _ h => h) hdg (kk H locs ls hl hw hs)
theorem gx_iret (X : gx_X E cc nL own (some .int)) {post : Int32 → gx_S → Prop} (hQ : ex_Q E = va_Qi post (gx_B (ex_Z E)) (gx_A (ex_Z E))) {v : Int32} (hp : post v u) (hdg : decode cc pc = .ok (.ireturn, 1)) : gx_Wc E nL pc lv [.int v] u := fun H locs ls hl hw hs =>
  W.iret X.1 X.2.1 X.2.2.2.2.2.2.1 (fun t ht _ => by rw [hQ]; exact ⟨⟨v, u, rfl, hp, by unfold gx_B; rw [ht]; exact hw⟩, hs.F ht⟩) hs.2.2 hdg X.2.2.2.2.2.2.2
theorem gx_zret (X : gx_X E cc nL own (some .boolean)) {post : Int32 → gx_S → Prop} (hQ : ex_Q E = va_Qi post (gx_B (ex_Z E)) (gx_A (ex_Z E))) {v : Int32} (hn : narrow .boolean (.int v) = .int v) (hp : post v u) (hdg : decode cc pc = .ok (.ireturn, 1)) : gx_Wc E nL pc lv [.int v] u := fun H locs ls hl hw hs =>
  W.zret X.1 X.2.1 X.2.2.2.2.2.2.1 hn (fun t ht _ => by rw [hQ]; exact ⟨⟨v, u, rfl, hp, by unfold gx_B; rw [ht]; exact hw⟩, hs.F ht⟩) hs.2.2 hdg X.2.2.2.2.2.2.2
theorem gx_lret (X : gx_X E cc nL own (some .long)) {post : Int64 → gx_S → Prop} (hQ : ex_Q E = va_Ql post (gx_B (ex_Z E)) (gx_A (ex_Z E))) {v : Int64} (hp : post v u) (hdg : decode cc pc = .ok (.lreturn, 1)) : gx_Wc E nL pc lv [.long v] u := fun H locs ls hl hw hs =>
  W.lret X.1 X.2.1 X.2.2.2.2.2.2.1 (fun t ht _ => by rw [hQ]; exact ⟨⟨v, u, rfl, hp, by unfold gx_B; rw [ht]; exact hw⟩, hs.F ht⟩) hs.2.2 hdg X.2.2.2.2.2.2.2
theorem gx_vret (X : gx_X E cc nL own none) {post : gx_S → Prop} (hQ : ex_Q E = va_Qv post (gx_B (ex_Z E)) (gx_A (ex_Z E))) (hp : post u) (hdg : decode cc pc = .ok (.return_, 1)) : gx_Wc E nL pc lv [] u := fun H locs ls hl hw hs =>
  W.vret X.1 X.2.1 X.2.2.2.2.2.2.1 (fun t ht _ => by rw [hQ]; exact ⟨⟨u, rfl, hp, by unfold gx_B; rw [ht]; exact hw⟩, hs.F ht⟩) hs.2.2 hdg X.2.2.2.2.2.2.2
end GY
section GC
variable {E : gx_E} {cc : ByteArray} {nL : Nat} {own : String} {ret : Option FieldType} {pc : Nat} {lv : List (Nat × Value)} {st : List Value} {u : gx_S}
theorem gx_nn (z : Int32) (hz : ¬ z < 0) : z.toInt = (z.toNatClampNeg : Int) := by
  have hz0 : (0 : Int) ≤ z.toInt := by
    have := Int32.not_lt.mp hz
    simpa using Int32.le_iff_toInt_le.mp this
  show z.toInt = ((z.toInt.toNat : Nat) : Int)
  omega
theorem gx_copy (X : gx_X E cc nL own ret) (hd : 1 ≤ ex_d E) {a b idx : Nat} {ty : FieldType} (ha : gx_isR a ty) (hb : gx_isA b ty) (hprim : refKind ty = false) {sp dp n : Int32} (h1 : ¬ sp < 0) (h2 : ¬ dp < 0) (h3 : ¬ n < 0) (h4 : sp.toNatClampNeg + n.toNatClampNeg ≤ gx_len a) (h5 : dp.toNatClampNeg + n.toNatClampNeg ≤ gx_len b)
    (m1 : Cond.methodLink own idx arraycopyName ∈ gx_TB) (m2 : Cond.native arraycopyName ∈ gx_TB) (m3 : Cond.static arraycopyName ∈ gx_TB) (m4 : Cond.initialized "java/lang/System" ∈ gx_TB) (hloc : (st.map fun v => v.category).sum + (nativeFrameWords "java/lang/System" "arraycopy" 5 + 11) ≤ 40) (hdg : decode cc pc = .ok (.invokestatic idx, 3))
    (kk : gx_Wc E nL (pc + 3) lv st (gx_pa u b (va_cpy (gx_a u a) (gx_a u b) sp.toNatClampNeg dp.toNatClampNeg n.toNatClampNeg))) : gx_Wc E nL pc lv (.int n :: .int dp :: .ref (ex_ad E b) :: .int sp :: .ref (ex_ad E a) :: st) u := by
  intro H locs ls hl hw hs T hT XX
  obtain ⟨scr, hs1, hs2, hs3, hs4, hs5, hs6⟩ := (hw a ha.1).ro ha.2
  have hfa := (hw a ha.1).fit ha.2
  obtain ⟨hfb, hc1⟩ := (hw b hb.r.1).ex hb.2 hb.1
  obtain ⟨k0, hk0, cm0, hkk0⟩ := X.2.2.2.2.2.1.2.1 a _ ha.1 ha.2
  obtain ⟨k1, hk1, cm1, hkk1⟩ := X.2.2.2.2.2.1.2.1 b _ hb.r.1 hb.2
  have hts := X.2.2.2.2.1
  dsimp only at hs5 hs6 hfa hfb hc1
  obtain ⟨vm', X', step⟩ := XX.arraycopy X.1 X.2.2.2.1 (hts _ m1) (hts _ m2) (hts _ m3) (hts _ m4) (src := ex_ad E a) (dst := ex_ad E b) (cs := scr) (cd := vp_cell ((ex_Z E).2.2 b) (gx_len b, .inl (gx_a u b))) (srcPos := sp) (destPos := dp) (n := n) (by rw [hT]; exact hs1) (by rw [hT]; exact hc1)
    hs4 (fun _ h => by cases h) hs3 (fun h => by cases h) (by rw [hs2]; exact hk0) hk1 hkk0 hkk1 (by simp [hprim]) h1 h2 h3
    (by rw [gx_nn sp h1, gx_nn n h3, hs5]; omega)
    (by rw [gx_nn dp h2, gx_nn n h3]; show ¬ _ > ((arrV _ _ (fun j => .int (gx_a u b j))).slots.size : Int); rw [arrV_size]; omega)
    (fun vm₁ _ i hi => by
      have e : scr.slots.getD (sp.toNatClampNeg + i) .null = .int (gx_a u a (sp.toNatClampNeg + i)) := by
        rw [Array.getD_eq_getD_getElem?, hs6 _ (by omega)]
        rfl
      refine ⟨?_, ?_⟩
      · rw [e]
        exact hfa _ (by omega)
      · rw [e]
        exact trivial)
    (g := F0 (ex_m E) pc ls (.int n :: .int dp :: .ref (ex_ad E b) :: .int sp :: .ref (ex_ad E a) :: st)) rfl (by rw [X.2.2.1]; exact hl.1) (rest := st) rfl (by rw [X.2.1]; exact hdg) hd (by show 2 * 0 + _ + _ ≤ 40 * ex_d E; omega)
  have e1 : copied scr (vp_cell ((ex_Z E).2.2 b) (gx_len b, .inl (gx_a u b))) sp dp n = vp_cell ((ex_Z E).2.2 b) (gx_len b, .inl (va_cpy (gx_a u a) (gx_a u b) sp.toNatClampNeg dp.toNatClampNeg n.toNatClampNeg)) := va_copiedX (fun z => .int z) scr ((ex_Z E).2.2 b) (gx_a u a) (gx_a u b) hs6 h4
  rw [e1] at X' step
  have hlt : ex_ad E b < H.size := (Array.getElem?_eq_some_iff.mp hc1).1
  have hheap : ((T.setVm vm').setCell (ex_ad E b) (vp_cell ((ex_Z E).2.2 b) (gx_len b, .inl (va_cpy (gx_a u a) (gx_a u b) sp.toNatClampNeg dp.toNatClampNeg n.toNatClampNeg)))).heap = H.setIfInBounds (ex_ad E b) (vp_cell ((ex_Z E).2.2 b) (gx_len b, .inl (va_cpy (gx_a u a) (gx_a u b) sp.toNatClampNeg dp.toNatClampNeg n.toNatClampNeg))) := by rw [← hT]; rfl
  have oq : ∀ q : Nat, q ≠ ex_ad E b → (H.setIfInBounds (ex_ad E b) (vp_cell ((ex_Z E).2.2 b) (gx_len b, .inl (va_cpy (gx_a u a) (gx_a u b) sp.toNatClampNeg dp.toNatClampNeg n.toNatClampNeg))))[q]? = H[q]? := fun q hq => by simp [Array.getElem?_setIfInBounds, Ne.symm hq]
  obtain ⟨t, a1, b1⟩ := kk _ _ ls hl (gx_W.pa X.2.2.2.2.2.1.2.2.1 hw hb.2 hb.1 oq (fun j hj => by
      unfold va_cpy
      split
      · exact hfa _ (by omega)
      · exact hfb j hj) (show (H.setIfInBounds (ex_ad E b) _)[ex_ad E b]? = some _ by simp [Array.getElem?_setIfInBounds, hlt])) ⟨by simp; exact hs.1, fun q g1 g2 => by
      rw [oq q (fun e => g2 ⟨b, hb.1, e.symm⟩)]
      exact hs.2.1 q g1 g2, fun q hq => by
      rcases List.mem_append.mp hq with h | h
      · exact hs.2.2 q h
      · obtain ⟨z, -, hz⟩ := List.mem_map.mp h
        rw [← hz]
        exact ⟨b, hb.1, rfl⟩⟩ _ hheap X'
  exact ⟨t, step t a1, b1⟩
abbrev gx_Run (E : gx_E) (nL pc : Nat) (lv : List (Nat × Value)) (st0 rest : List Value) (u : gx_S) (Qa : State → Outcome → State → Prop) : Prop :=
  ∀ (H : Heap) (locs : List Loc) (ls : Array Slot), lv_has ls nL lv → gx_W (ex_Z E) u H → va_S (gx_A (ex_Z E)) (ex_s E).heap H locs →
    va_Run (ex_p E) (ex_l E) (ex_e E) (gx_rm (ex_d E)) (ex_s E) (ex_m E) (ex_args E) (ex_below E) (ex_meth E) (ex_c E) H locs 0 0 0 0 (F0 (ex_m E) pc ls st0) rest Qa (gx_A (ex_Z E))
theorem gx_blind {Z : gx_Z} {u : gx_S} {av : List Value} : FrameBlind (gx_Pre Z u av) := fun _ _ _ _ q => ⟨q.1, q.2.1.calling, q.2.2⟩
theorem gx_recv (X : gx_X E cc nL own ret) {o ci N : Nat} {C : String} {T : u_T} (hk : gx_isO o ci) (hc : classes[ci]? = some (C, T, N)) {H : Heap} (hw : gx_W (ex_Z E) u H) : ∃ cell : Cell, H[ex_ad E o]? = some cell ∧ cell.vm.isStatics = false ∧ (ex_s E).vm.findClass C = some cell.cls := by
  have h1 := hw o (Nat.lt_of_lt_of_le hk.1 gx_NwN)
  unfold gx_at at h1
  simp only [hk.2] at h1
  obtain ⟨cell, q1, q2, q3, q4⟩ := h1
  exact ⟨cell, q1, by rw [q3]; rfl, by rw [q2]; exact (X.2.2.2.2.2.1.1 ci _ hc).2.1⟩
variable {y : MethodName} {bytes : ByteArray} {maxL d' idx n o ci N : Nat} {T : u_T} {ry : Option FieldType} {As rest st0 : List Value} {Qc : Array Value → State → Outcome → State → Prop}
theorem gx_rV (X : gx_X E cc nL own ret) (hM : Met (ex_l E) y (Cond.code y bytes maxL ry :: gx_TB) (gx_rm d') (gx_Pre (ex_Z E) u (.ref (ex_ad E o) :: As)) Qc 0 0 (gx_A (ex_Z E))) (hd : d' + 1 ≤ ex_d E) (hR2 : 8 + (maxL + 11) + 40 * d' ≤ 40 * ex_d E) (hk : gx_isO o ci) (hc : classes[ci]? = some (y.cls, T, N)) (m1 : Cond.methodLink own idx y ∈ gx_TB) (m2 : Cond.instanceMethod y ∈ gx_TB) (m3 : Cond.selects y.cls y y ∈ gx_TB) (m4 : Cond.initialized y.cls ∈ gx_TB) (m5 : Cond.code y bytes maxL ry ∈ gx_TB)
    (hy : y.cls ≠ "java/lang/invoke/MethodHandle" ∧ y.cls ≠ "java/lang/invoke/VarHandle" ∧ (parseMethodDescriptor y.desc).map (fun d => d.parameters.length) = some n) (hn : As.length = n) (hst : st0 = As.reverse ++ .ref (ex_ad E o) :: rest) (hrest : (rest.map fun v => v.category).sum ≤ 8) (hdg : decode cc pc = .ok (.invokevirtual idx, 3)) : gx_Run E nL pc lv st0 rest u (Qc (Value.ref (ex_ad E o) :: As).toArray) := by
  intro H locs ls hl hw hs
  have hts := X.2.2.2.2.1
  exact va_runV (Ts := gx_TB) (C := y.cls) ⟨X.1, X.2.1, X.2.2.1, X.2.2.2.1, hts⟩ hM ⟨callB_of n hts (gx_goodT m5) rfl rfl rfl (hts _ m4) (hts _ m1) hy ⟨hd, hR2⟩, hts _ m2, hts _ m3⟩ ⟨gx_blind, gx_recv X hk hc hw, fun U hU hW => ⟨rfl, X.2.2.2.2.2.1.moved hW hU hs, by rw [hU]; exact hw⟩⟩ rfl hn hl.1 hst (lv_room hrest) hdg ⟨Nat.le_refl 0, Nat.le_refl 0⟩
theorem gx_rVN {host : String} (X : gx_X E cc nL own ret) (hM : Met (ex_l E) y (Cond.code y bytes maxL ry :: gx_TB) (gx_rm d') (gx_Pre (ex_Z E) u (.ref (ex_ad E o) :: As)) Qc 0 0 (gx_A (ex_Z E))) (hd : d' + 1 ≤ ex_d E) (hR2 : 8 + (maxL + 11) + 40 * d' ≤ 40 * ex_d E) (hk : gx_isO o ci) (hc : classes[ci]? = some (y.cls, T, N)) (m1 : (own, idx, y, host) ∈ gx_nest) (m2 : Cond.instanceMethod y ∈ gx_TB) (m3 : Cond.selects y.cls y y ∈ gx_TB) (m4 : Cond.initialized y.cls ∈ gx_TB) (m5 : Cond.code y bytes maxL ry ∈ gx_TB)
    (hy : y.cls ≠ "java/lang/invoke/MethodHandle" ∧ y.cls ≠ "java/lang/invoke/VarHandle" ∧ (parseMethodDescriptor y.desc).map (fun d => d.parameters.length) = some n) (hn : As.length = n) (hst : st0 = As.reverse ++ .ref (ex_ad E o) :: rest) (hrest : (rest.map fun v => v.category).sum ≤ 8) (hdg : decode cc pc = .ok (.invokevirtual idx, 3)) : gx_Run E nL pc lv st0 rest u (Qc (Value.ref (ex_ad E o) :: As).toArray) := by
  intro H locs ls hl hw hs
  have hts := X.2.2.2.2.1
  exact va_runVN (Ts := gx_TB) (C := y.cls) ⟨X.1, X.2.1, X.2.2.1, X.2.2.2.1, hts⟩ hM ⟨va_cnB n hts (gx_goodT m5) rfl rfl rfl (X.2.2.2.2.2.1.2.2.2.1 _ m1) (hts _ m4) hy ⟨hd, hR2⟩, hts _ m2, hts _ m3⟩ ⟨gx_blind, gx_recv X hk hc hw, fun U hU hW => ⟨rfl, X.2.2.2.2.2.1.moved hW hU hs, by rw [hU]; exact hw⟩⟩ rfl hn hl.1 hst (lv_room hrest) hdg ⟨Nat.le_refl 0, Nat.le_refl 0⟩
theorem gx_rS (X : gx_X E cc nL own ret) (hM : Met (ex_l E) y (Cond.code y bytes maxL ry :: gx_TB) (gx_rm d') (gx_Pre (ex_Z E) u As) Qc 0 0 (gx_A (ex_Z E))) (hd : d' + 1 ≤ ex_d E) (hR2 : 8 + (maxL + 11) + 40 * d' ≤ 40 * ex_d E) (m1 : Cond.methodLink own idx y ∈ gx_TB) (m2 : Cond.static y ∈ gx_TB) (m4 : Cond.initialized y.cls ∈ gx_TB) (m5 : Cond.code y bytes maxL ry ∈ gx_TB)
    (hy : y.cls ≠ "java/lang/invoke/MethodHandle" ∧ y.cls ≠ "java/lang/invoke/VarHandle" ∧ (parseMethodDescriptor y.desc).map (fun d => d.parameters.length) = some n) (hn : As.length = n) (hst : st0 = As.reverse ++ rest) (hrest : (rest.map fun v => v.category).sum ≤ 8) (hdg : decode cc pc = .ok (.invokestatic idx, 3)) : gx_Run E nL pc lv st0 rest u (Qc As.toArray) := by
  intro H locs ls hl hw hs
  have hts := X.2.2.2.2.1
  exact va_runS (Ts := gx_TB) ⟨X.1, X.2.1, X.2.2.1, X.2.2.2.1, hts⟩ hM ⟨callB_of n hts (gx_goodT m5) rfl rfl rfl (hts _ m4) (hts _ m1) hy ⟨hd, hR2⟩, hts _ m2⟩ ⟨gx_blind, fun U hU hW => ⟨rfl, X.2.2.2.2.2.1.moved hW hU hs, by rw [hU]; exact hw⟩⟩ rfl hn hl.1 hst (lv_room hrest) hdg ⟨Nat.le_refl 0, Nat.le_refl 0⟩
theorem gx_rSN {host : String} (X : gx_X E cc nL own ret) (hM : Met (ex_l E) y (Cond.code y bytes maxL ry :: gx_TB) (gx_rm d') (gx_Pre (ex_Z E) u As) Qc 0 0 (gx_A (ex_Z E))) (hd : d' + 1 ≤ ex_d E) (hR2 : 8 + (maxL + 11) + 40 * d' ≤ 40 * ex_d E) (m1 : (own, idx, y, host) ∈ gx_nest) (m2 : Cond.static y ∈ gx_TB) (m4 : Cond.initialized y.cls ∈ gx_TB) (m5 : Cond.code y bytes maxL ry ∈ gx_TB)
    (hy : y.cls ≠ "java/lang/invoke/MethodHandle" ∧ y.cls ≠ "java/lang/invoke/VarHandle" ∧ (parseMethodDescriptor y.desc).map (fun d => d.parameters.length) = some n) (hn : As.length = n) (hst : st0 = As.reverse ++ rest) (hrest : (rest.map fun v => v.category).sum ≤ 8) (hdg : decode cc pc = .ok (.invokestatic idx, 3)) : gx_Run E nL pc lv st0 rest u (Qc As.toArray) := by
  intro H locs ls hl hw hs
  have hts := X.2.2.2.2.1
  exact va_runSN (Ts := gx_TB) ⟨X.1, X.2.1, X.2.2.1, X.2.2.2.1, hts⟩ hM ⟨va_cnB n hts (gx_goodT m5) rfl rfl rfl (X.2.2.2.2.2.1.2.2.2.1 _ m1) (hts _ m4) hy ⟨hd, hR2⟩, hts _ m2, trivial⟩ ⟨gx_blind, fun U hU hW => ⟨rfl, X.2.2.2.2.2.1.moved hW hU hs, by rw [hU]; exact hw⟩⟩ rfl hn hl.1 hst (lv_room hrest) hdg ⟨Nat.le_refl 0, Nat.le_refl 0⟩
theorem gx_ki {post : Int32 → gx_S → Prop} {a : Array Value} (hr : gx_Run E nL pc lv st0 rest u (va_Qi post (gx_B (ex_Z E)) (gx_A (ex_Z E)) a)) (kk : ∀ (r : Int32) (u' : gx_S), post r u' → gx_Wc E nL (pc + 3) lv (.int r :: rest) u') : gx_Wc E nL pc lv st0 u := fun H locs ls hl hw hs =>
  va_calli (hr H locs ls hl hw hs) hs (fun _ _ h => h) (fun _ h => h) (fun r u' t H1 locs1 ht _ hp hB _ _ hS => kk r u' hp H1 locs1 ls hl (by rw [← ht]; exact hB) hS)
theorem gx_kl {post : Int64 → gx_S → Prop} {a : Array Value} (hr : gx_Run E nL pc lv st0 rest u (va_Ql post (gx_B (ex_Z E)) (gx_A (ex_Z E)) a)) (kk : ∀ (r : Int64) (u' : gx_S), post r u' → gx_Wc E nL (pc + 3) lv (.long r :: rest) u') : gx_Wc E nL pc lv st0 u := fun H locs ls hl hw hs =>
  va_calll (hr H locs ls hl hw hs) hs (fun _ _ h => h) (fun _ h => h) (fun r u' t H1 locs1 ht _ hp hB _ _ hS => kk r u' hp H1 locs1 ls hl (by rw [← ht]; exact hB) hS)
theorem gx_kv {post : gx_S → Prop} {a : Array Value} (hr : gx_Run E nL pc lv st0 rest u (va_Qv post (gx_B (ex_Z E)) (gx_A (ex_Z E)) a)) (kk : ∀ (u' : gx_S), post u' → gx_Wc E nL (pc + 3) lv rest u') : gx_Wc E nL pc lv st0 u := fun H locs ls hl hw hs =>
  va_callv (hr H locs ls hl hw hs) hs (fun _ _ h => h) (fun _ h => h) (fun u' t H1 locs1 ht _ hp hB _ _ hS => kk u' hp H1 locs1 ls hl (by rw [← ht]; exact hB) hS)
theorem gx_mmin (X : gx_X E cc nL own ret) (hd : 1 ≤ ex_d E) (m1 : Cond.methodLink own idx Lib.Math.min.name ∈ gx_TB) (m2 : Cond.static Lib.Math.min.name ∈ gx_TB) (m3 : Cond.initialized "java/lang/Math" ∈ gx_TB) (m4 : Cond.code Lib.Math.min.name Lib.Math.min.code 2 (some .int) ∈ gx_TB) (hloc : (st.map fun v => v.category).sum + 13 ≤ 40) {x z : Int32} (hdg : decode cc pc = .ok (.invokestatic idx, 3))
    (kk : gx_Wc E nL (pc + 3) lv (.int (if z < x then z else x) :: st) u) : gx_Wc E nL pc lv (.int z :: .int x :: st) u := fun H locs ls hl hw hs => by
  have hts := X.2.2.2.2.1
  exact va_mmin X.1 X.2.1 (by rw [X.2.2.1]; exact hl.1.symm) X.2.2.2.1 (hts _ m1) (hts _ m2) (hts _ m3) (hts _ m4) hd (by show _ + 13 ≤ 40 * ex_d E; omega) (Nat.zero_le _) (Nat.zero_le _) hdg (kk H locs ls hl hw hs)
theorem gx_mminl (X : gx_X E cc nL own ret) (hd : 1 ≤ ex_d E) (m1 : Cond.methodLink own idx Lib.MathLoose.min_long.x ∈ gx_TB) (m2 : Cond.static Lib.MathLoose.min_long.x ∈ gx_TB) (m3 : Cond.initialized "java/lang/Math" ∈ gx_TB) (m4 : Cond.code Lib.MathLoose.min_long.x Lib.MathLoose.min_long.code 4 (some .long) ∈ gx_TB) (hloc : (st.map fun v => v.category).sum + 15 ≤ 40) {x z : Int64} (hdg : decode cc pc = .ok (.invokestatic idx, 3))
    (kk : gx_Wc E nL (pc + 3) lv (.long (if z < x then z else x) :: st) u) : gx_Wc E nL pc lv (.long z :: .long x :: st) u := fun H locs ls hl hw hs => by
  have hts := X.2.2.2.2.1
  exact va_mmin_long X.1 X.2.1 (by rw [X.2.2.1]; exact hl.1.symm) X.2.2.2.1 (hts _ m1) (hts _ m2) (hts _ m3) (hts _ m4) hd (by show _ + 15 ≤ 40 * ex_d E; omega) (Nat.zero_le _) (Nat.zero_le _) hdg (kk H locs ls hl hw hs)
end GC
end
section
theorem mp_0 : Cond.selects RX1 yX1_addRelaxedValue yX1_addRelaxedValue ∈ gx_TB := List.mem_filter.mpr ⟨List.mem_append_left _ (List.mem_of_getElem? (i := 0) (by decide +kernel)), by decide +kernel⟩
theorem mp_1 : Cond.selects RX1 yX1_isNamed yX1_isNamed ∈ gx_TB := List.mem_filter.mpr ⟨List.mem_append_left _ (List.mem_of_getElem? (i := 1) (by decide +kernel)), by decide +kernel⟩
theorem mp_2 : Cond.selects RX3 yX3_fillSchedule yX3_fillSchedule ∈ gx_TB := List.mem_filter.mpr ⟨List.mem_append_left _ (List.mem_of_getElem? (i := 2) (by decide +kernel)), by decide +kernel⟩
theorem mp_3 : Cond.selects RX3 yX3_mixBlock yX3_mixBlock ∈ gx_TB := List.mem_filter.mpr ⟨List.mem_append_left _ (List.mem_of_getElem? (i := 3) (by decide +kernel)), by decide +kernel⟩
theorem mp_4 : Cond.selects RX3 yX3_mixRound yX3_mixRound ∈ gx_TB := List.mem_filter.mpr ⟨List.mem_append_left _ (List.mem_of_getElem? (i := 4) (by decide +kernel)), by decide +kernel⟩
theorem mp_5 : Cond.selects RX2 yX2_bringBaseBelowModulus yX2_bringBaseBelowModulus ∈ gx_TB := List.mem_filter.mpr ⟨List.mem_append_left _ (List.mem_of_getElem? (i := 5) (by decide +kernel)), by decide +kernel⟩
theorem mp_6 : Cond.selects RX2 yX2_divideProduct yX2_divideProduct ∈ gx_TB := List.mem_filter.mpr ⟨List.mem_append_left _ (List.mem_of_getElem? (i := 6) (by decide +kernel)), by decide +kernel⟩
theorem mp_7 : Cond.selects RX2 yX2_guessedDigit yX2_guessedDigit ∈ gx_TB := List.mem_filter.mpr ⟨List.mem_append_left _ (List.mem_of_getElem? (i := 7) (by decide +kernel)), by decide +kernel⟩
theorem mp_8 : Cond.selects RX2 yX2_takeAway yX2_takeAway ∈ gx_TB := List.mem_filter.mpr ⟨List.mem_append_left _ (List.mem_of_getElem? (i := 8) (by decide +kernel)), by decide +kernel⟩
theorem mp_9 : Cond.selects RX2 yX2_giveBack yX2_giveBack ∈ gx_TB := List.mem_filter.mpr ⟨List.mem_append_left _ (List.mem_of_getElem? (i := 9) (by decide +kernel)), by decide +kernel⟩
theorem mp_10 : Cond.selects RX2 yX2_multiplyRestBy yX2_multiplyRestBy ∈ gx_TB := List.mem_filter.mpr ⟨List.mem_append_left _ (List.mem_of_getElem? (i := 10) (by decide +kernel)), by decide +kernel⟩
theorem mp_11 : Cond.selects RX10 yX10_four yX10_four ∈ gx_TB := List.mem_filter.mpr ⟨List.mem_append_left _ (List.mem_of_getElem? (i := 11) (by decide +kernel)), by decide +kernel⟩
theorem mp_12 : Cond.selects RX10 yX10_used yX10_used ∈ gx_TB := List.mem_filter.mpr ⟨List.mem_append_left _ (List.mem_of_getElem? (i := 12) (by decide +kernel)), by decide +kernel⟩
theorem mp_13 : Cond.selects RX10 yX10_bodyPlain yX10_bodyPlain ∈ gx_TB := List.mem_filter.mpr ⟨List.mem_append_left _ (List.mem_of_getElem? (i := 13) (by decide +kernel)), by decide +kernel⟩
theorem mp_14 : Cond.selects RX10 yX10_tell yX10_tell ∈ gx_TB := List.mem_filter.mpr ⟨List.mem_append_left _ (List.mem_of_getElem? (i := 14) (by decide +kernel)), by decide +kernel⟩
theorem mp_15 : Cond.selects RX10 yX10_fieldPlain yX10_fieldPlain ∈ gx_TB := List.mem_filter.mpr ⟨List.mem_append_left _ (List.mem_of_getElem? (i := 15) (by decide +kernel)), by decide +kernel⟩
theorem mp_16 : Cond.selects RX10 yX10_valueEnd yX10_valueEnd ∈ gx_TB := List.mem_filter.mpr ⟨List.mem_append_left _ (List.mem_of_getElem? (i := 16) (by decide +kernel)), by decide +kernel⟩
theorem mp_17 : Cond.selects RX8 yX8_isSame yX8_isSame ∈ gx_TB := List.mem_filter.mpr ⟨List.mem_append_left _ (List.mem_of_getElem? (i := 17) (by decide +kernel)), by decide +kernel⟩
theorem mp_18 : Cond.selects RX10 yX10_digest yX10_digest ∈ gx_TB := List.mem_filter.mpr ⟨List.mem_append_left _ (List.mem_of_getElem? (i := 18) (by decide +kernel)), by decide +kernel⟩
theorem mp_19 : Cond.selects RX7 yX7_round yX7_round ∈ gx_TB := List.mem_filter.mpr ⟨List.mem_append_left _ (List.mem_of_getElem? (i := 19) (by decide +kernel)), by decide +kernel⟩
theorem mp_20 : Cond.selects RX10 yX10_remainder yX10_remainder ∈ gx_TB := List.mem_filter.mpr ⟨List.mem_append_left _ (List.mem_of_getElem? (i := 20) (by decide +kernel)), by decide +kernel⟩
theorem mp_21 : Cond.selects RX10 yX10_times yX10_times ∈ gx_TB := List.mem_filter.mpr ⟨List.mem_append_left _ (List.mem_of_getElem? (i := 21) (by decide +kernel)), by decide +kernel⟩
theorem mw_1 : Cond.initialized RX6 ∈ gx_TB := List.mem_filter.mpr ⟨List.mem_append_right _ (List.mem_of_getElem? (i := 1) (by decide +kernel)), by decide +kernel⟩
theorem mw_2 : Cond.initialized RX0 ∈ gx_TB := List.mem_filter.mpr ⟨List.mem_append_right _ (List.mem_of_getElem? (i := 2) (by decide +kernel)), by decide +kernel⟩
theorem mw_3 : Cond.initialized RX1 ∈ gx_TB := List.mem_filter.mpr ⟨List.mem_append_right _ (List.mem_of_getElem? (i := 3) (by decide +kernel)), by decide +kernel⟩
theorem mw_4 : Cond.initialized RX5 ∈ gx_TB := List.mem_filter.mpr ⟨List.mem_append_right _ (List.mem_of_getElem? (i := 4) (by decide +kernel)), by decide +kernel⟩
theorem mw_5 : Cond.initialized RX3 ∈ gx_TB := List.mem_filter.mpr ⟨List.mem_append_right _ (List.mem_of_getElem? (i := 5) (by decide +kernel)), by decide +kernel⟩
theorem mw_6 : Cond.initialized RX2 ∈ gx_TB := List.mem_filter.mpr ⟨List.mem_append_right _ (List.mem_of_getElem? (i := 6) (by decide +kernel)), by decide +kernel⟩
theorem mw_7 : Cond.initialized RX10 ∈ gx_TB := List.mem_filter.mpr ⟨List.mem_append_right _ (List.mem_of_getElem? (i := 7) (by decide +kernel)), by decide +kernel⟩
theorem mw_8 : Cond.initialized RX9 ∈ gx_TB := List.mem_filter.mpr ⟨List.mem_append_right _ (List.mem_of_getElem? (i := 8) (by decide +kernel)), by decide +kernel⟩
theorem mw_9 : Cond.initialized RX8 ∈ gx_TB := List.mem_filter.mpr ⟨List.mem_append_right _ (List.mem_of_getElem? (i := 9) (by decide +kernel)), by decide +kernel⟩
theorem mw_10 : Cond.initialized RX7 ∈ gx_TB := List.mem_filter.mpr ⟨List.mem_append_right _ (List.mem_of_getElem? (i := 10) (by decide +kernel)), by decide +kernel⟩
theorem mw_11 : Cond.initialized RJ9 ∈ gx_TB := List.mem_filter.mpr ⟨List.mem_append_right _ (List.mem_of_getElem? (i := 11) (by decide +kernel)), by decide +kernel⟩
theorem mw_12 : Cond.initialized RJ10 ∈ gx_TB := List.mem_filter.mpr ⟨List.mem_append_right _ (List.mem_of_getElem? (i := 12) (by decide +kernel)), by decide +kernel⟩
theorem mw_13 : Cond.initialized RX4 ∈ gx_TB := List.mem_filter.mpr ⟨List.mem_append_right _ (List.mem_of_getElem? (i := 13) (by decide +kernel)), by decide +kernel⟩
theorem mw_14 : Cond.initialized RJ6 ∈ gx_TB := List.mem_filter.mpr ⟨List.mem_append_right _ (List.mem_of_getElem? (i := 14) (by decide +kernel)), by decide +kernel⟩
theorem mw_15 : Cond.initialized RJ7 ∈ gx_TB := List.mem_filter.mpr ⟨List.mem_append_right _ (List.mem_of_getElem? (i := 15) (by decide +kernel)), by decide +kernel⟩
theorem mw_30 : Cond.fieldLink RX0 9 "PlainSeal$Bytes" "held" "[B" ∈ gx_TB := List.mem_filter.mpr ⟨List.mem_append_right _ (List.mem_of_getElem? (i := 30) (by decide +kernel)), by decide +kernel⟩
theorem mw_31 : Cond.fieldLink RX0 15 "PlainSeal$Bytes" "size" "I" ∈ gx_TB := List.mem_filter.mpr ⟨List.mem_append_right _ (List.mem_of_getElem? (i := 31) (by decide +kernel)), by decide +kernel⟩
theorem mw_46 : Cond.fieldLink RX1 12 "PlainSeal$Mail" "text" "LPlainSeal$Bytes;" ∈ gx_TB := List.mem_filter.mpr ⟨List.mem_append_right _ (List.mem_of_getElem? (i := 46) (by decide +kernel)), by decide +kernel⟩
theorem mw_47 : Cond.fieldLink RX1 18 "PlainSeal$Mail" "places" "[I" ∈ gx_TB := List.mem_filter.mpr ⟨List.mem_append_right _ (List.mem_of_getElem? (i := 47) (by decide +kernel)), by decide +kernel⟩
theorem mw_48 : Cond.fieldLink RX1 22 "PlainSeal$Mail" "fields" "I" ∈ gx_TB := List.mem_filter.mpr ⟨List.mem_append_right _ (List.mem_of_getElem? (i := 48) (by decide +kernel)), by decide +kernel⟩
theorem mw_65 : Cond.fieldLink RX5 12 "PlainSeal$TagList" "text" "LPlainSeal$Bytes;" ∈ gx_TB := List.mem_filter.mpr ⟨List.mem_append_right _ (List.mem_of_getElem? (i := 65) (by decide +kernel)), by decide +kernel⟩
theorem mw_75 : Cond.fieldLink RX3 9 "PlainSeal$Sha256" "state" "[I" ∈ gx_TB := List.mem_filter.mpr ⟨List.mem_append_right _ (List.mem_of_getElem? (i := 75) (by decide +kernel)), by decide +kernel⟩
theorem mw_76 : Cond.fieldLink RX3 13 "PlainSeal$Sha256" "mixed" "[I" ∈ gx_TB := List.mem_filter.mpr ⟨List.mem_append_right _ (List.mem_of_getElem? (i := 76) (by decide +kernel)), by decide +kernel⟩
theorem mw_77 : Cond.fieldLink RX3 16 "PlainSeal$Sha256" "schedule" "[I" ∈ gx_TB := List.mem_filter.mpr ⟨List.mem_append_right _ (List.mem_of_getElem? (i := 77) (by decide +kernel)), by decide +kernel⟩
theorem mw_91 : Cond.fieldLink RX2 9 "PlainSeal$Modular" "base" "[I" ∈ gx_TB := List.mem_filter.mpr ⟨List.mem_append_right _ (List.mem_of_getElem? (i := 91) (by decide +kernel)), by decide +kernel⟩
theorem mw_92 : Cond.fieldLink RX2 13 "PlainSeal$Modular" "modulus" "[I" ∈ gx_TB := List.mem_filter.mpr ⟨List.mem_append_right _ (List.mem_of_getElem? (i := 92) (by decide +kernel)), by decide +kernel⟩
theorem mw_93 : Cond.fieldLink RX2 16 "PlainSeal$Modular" "rest" "[I" ∈ gx_TB := List.mem_filter.mpr ⟨List.mem_append_right _ (List.mem_of_getElem? (i := 93) (by decide +kernel)), by decide +kernel⟩
theorem mw_94 : Cond.fieldLink RX2 19 "PlainSeal$Modular" "product" "[I" ∈ gx_TB := List.mem_filter.mpr ⟨List.mem_append_right _ (List.mem_of_getElem? (i := 94) (by decide +kernel)), by decide +kernel⟩
theorem mw_104 : Cond.fieldLink RX6 10 "PlainSeal" "tape" "LPlainSeal$Bytes;" ∈ gx_TB := List.mem_filter.mpr ⟨List.mem_append_right _ (List.mem_of_getElem? (i := 104) (by decide +kernel)), by decide +kernel⟩
theorem mw_105 : Cond.fieldLink RX6 16 "PlainSeal" "out" "LPlainSeal$Bytes;" ∈ gx_TB := List.mem_filter.mpr ⟨List.mem_append_right _ (List.mem_of_getElem? (i := 105) (by decide +kernel)), by decide +kernel⟩
theorem mw_106 : Cond.fieldLink RX6 22 "PlainSeal" "mail" "LPlainSeal$Mail;" ∈ gx_TB := List.mem_filter.mpr ⟨List.mem_append_right _ (List.mem_of_getElem? (i := 106) (by decide +kernel)), by decide +kernel⟩
theorem mw_107 : Cond.fieldLink RX6 29 "PlainSeal" "tagList" "LPlainSeal$TagList;" ∈ gx_TB := List.mem_filter.mpr ⟨List.mem_append_right _ (List.mem_of_getElem? (i := 107) (by decide +kernel)), by decide +kernel⟩
theorem mw_108 : Cond.fieldLink RX6 36 "PlainSeal" "sha256" "LPlainSeal$Sha256;" ∈ gx_TB := List.mem_filter.mpr ⟨List.mem_append_right _ (List.mem_of_getElem? (i := 108) (by decide +kernel)), by decide +kernel⟩
theorem mw_109 : Cond.fieldLink RX6 43 "PlainSeal" "modular" "LPlainSeal$Modular;" ∈ gx_TB := List.mem_filter.mpr ⟨List.mem_append_right _ (List.mem_of_getElem? (i := 109) (by decide +kernel)), by decide +kernel⟩
theorem mw_127 : Cond.methodLink RX6 47 yX0_size ∈ gx_TB := List.mem_filter.mpr ⟨List.mem_append_right _ (List.mem_of_getElem? (i := 127) (by decide +kernel)), by decide +kernel⟩
theorem mw_128 : Cond.instanceMethod yX0_size ∈ gx_TB := List.mem_filter.mpr ⟨List.mem_append_right _ (List.mem_of_getElem? (i := 128) (by decide +kernel)), by decide +kernel⟩
theorem mw_129 : Cond.selects RX0 yX0_size yX0_size ∈ gx_TB := List.mem_filter.mpr ⟨List.mem_append_right _ (List.mem_of_getElem? (i := 129) (by decide +kernel)), by decide +kernel⟩
set_option maxRecDepth 100000 in
theorem mw_130 : Cond.code yX0_size cX0_size 1 (some .int) ∈ gx_TB := List.mem_filter.mpr ⟨List.mem_append_right _ (List.mem_of_getElem? (i := 130) rfl), by decide +kernel⟩
theorem mw_131 : Cond.methodLink RX6 51 yX0_addWord ∈ gx_TB := List.mem_filter.mpr ⟨List.mem_append_right _ (List.mem_of_getElem? (i := 131) (by decide +kernel)), by decide +kernel⟩
theorem mw_132 : Cond.instanceMethod yX0_addWord ∈ gx_TB := List.mem_filter.mpr ⟨List.mem_append_right _ (List.mem_of_getElem? (i := 132) (by decide +kernel)), by decide +kernel⟩
theorem mw_133 : Cond.selects RX0 yX0_addWord yX0_addWord ∈ gx_TB := List.mem_filter.mpr ⟨List.mem_append_right _ (List.mem_of_getElem? (i := 133) (by decide +kernel)), by decide +kernel⟩
set_option maxRecDepth 100000 in
theorem mw_134 : Cond.code yX0_addWord cX0_addWord 2 none ∈ gx_TB := List.mem_filter.mpr ⟨List.mem_append_right _ (List.mem_of_getElem? (i := 134) rfl), by decide +kernel⟩
theorem mw_135 : Cond.methodLink RX0 19 yX0_add ∈ gx_TB := List.mem_filter.mpr ⟨List.mem_append_right _ (List.mem_of_getElem? (i := 135) (by decide +kernel)), by decide +kernel⟩
theorem mw_136 : Cond.instanceMethod yX0_add ∈ gx_TB := List.mem_filter.mpr ⟨List.mem_append_right _ (List.mem_of_getElem? (i := 136) (by decide +kernel)), by decide +kernel⟩
theorem mw_137 : Cond.selects RX0 yX0_add yX0_add ∈ gx_TB := List.mem_filter.mpr ⟨List.mem_append_right _ (List.mem_of_getElem? (i := 137) (by decide +kernel)), by decide +kernel⟩
set_option maxRecDepth 100000 in
theorem mw_138 : Cond.code yX0_add cX0_add 2 none ∈ gx_TB := List.mem_filter.mpr ⟨List.mem_append_right _ (List.mem_of_getElem? (i := 138) rfl), by decide +kernel⟩
theorem mw_143 : Cond.methodLink RX6 55 yX0_cutTo ∈ gx_TB := List.mem_filter.mpr ⟨List.mem_append_right _ (List.mem_of_getElem? (i := 143) (by decide +kernel)), by decide +kernel⟩
theorem mw_144 : Cond.instanceMethod yX0_cutTo ∈ gx_TB := List.mem_filter.mpr ⟨List.mem_append_right _ (List.mem_of_getElem? (i := 144) (by decide +kernel)), by decide +kernel⟩
theorem mw_145 : Cond.selects RX0 yX0_cutTo yX0_cutTo ∈ gx_TB := List.mem_filter.mpr ⟨List.mem_append_right _ (List.mem_of_getElem? (i := 145) (by decide +kernel)), by decide +kernel⟩
set_option maxRecDepth 100000 in
theorem mw_146 : Cond.code yX0_cutTo cX0_cutTo 2 none ∈ gx_TB := List.mem_filter.mpr ⟨List.mem_append_right _ (List.mem_of_getElem? (i := 146) rfl), by decide +kernel⟩
theorem mw_151 : Cond.methodLink RX6 58 yX1_read ∈ gx_TB := List.mem_filter.mpr ⟨List.mem_append_right _ (List.mem_of_getElem? (i := 151) (by decide +kernel)), by decide +kernel⟩
theorem mw_152 : Cond.instanceMethod yX1_read ∈ gx_TB := List.mem_filter.mpr ⟨List.mem_append_right _ (List.mem_of_getElem? (i := 152) (by decide +kernel)), by decide +kernel⟩
theorem mw_153 : Cond.selects RX1 yX1_read yX1_read ∈ gx_TB := List.mem_filter.mpr ⟨List.mem_append_right _ (List.mem_of_getElem? (i := 153) (by decide +kernel)), by decide +kernel⟩
set_option maxRecDepth 100000 in
theorem mw_154 : Cond.code yX1_read cX1_read 4 (some .int) ∈ gx_TB := List.mem_filter.mpr ⟨List.mem_append_right _ (List.mem_of_getElem? (i := 154) rfl), by decide +kernel⟩
theorem mw_155 : Cond.methodLink RX1 26 yX1_countFields ∈ gx_TB := List.mem_filter.mpr ⟨List.mem_append_right _ (List.mem_of_getElem? (i := 155) (by decide +kernel)), by decide +kernel⟩
theorem mw_156 : Cond.static yX1_countFields ∈ gx_TB := List.mem_filter.mpr ⟨List.mem_append_right _ (List.mem_of_getElem? (i := 156) (by decide +kernel)), by decide +kernel⟩
set_option maxRecDepth 100000 in
theorem mw_157 : Cond.code yX1_countFields cX1_countFields 3 (some .int) ∈ gx_TB := List.mem_filter.mpr ⟨List.mem_append_right _ (List.mem_of_getElem? (i := 157) rfl), by decide +kernel⟩
theorem mw_158 : Cond.methodLink RX1 38 yX1_fieldsEndAt ∈ gx_TB := List.mem_filter.mpr ⟨List.mem_append_right _ (List.mem_of_getElem? (i := 158) (by decide +kernel)), by decide +kernel⟩
theorem mw_159 : Cond.static yX1_fieldsEndAt ∈ gx_TB := List.mem_filter.mpr ⟨List.mem_append_right _ (List.mem_of_getElem? (i := 159) (by decide +kernel)), by decide +kernel⟩
set_option maxRecDepth 100000 in
theorem mw_160 : Cond.code yX1_fieldsEndAt cX1_fieldsEndAt 2 (some .boolean) ∈ gx_TB := List.mem_filter.mpr ⟨List.mem_append_right _ (List.mem_of_getElem? (i := 160) rfl), by decide +kernel⟩
theorem mw_161 : Cond.methodLink RX1 45 yX0_size ∈ gx_TB := List.mem_filter.mpr ⟨List.mem_append_right _ (List.mem_of_getElem? (i := 161) (by decide +kernel)), by decide +kernel⟩
theorem mw_162 : Cond.methodLink RX1 49 yX0_at ∈ gx_TB := List.mem_filter.mpr ⟨List.mem_append_right _ (List.mem_of_getElem? (i := 162) (by decide +kernel)), by decide +kernel⟩
theorem mw_163 : Cond.instanceMethod yX0_at ∈ gx_TB := List.mem_filter.mpr ⟨List.mem_append_right _ (List.mem_of_getElem? (i := 163) (by decide +kernel)), by decide +kernel⟩
theorem mw_164 : Cond.selects RX0 yX0_at yX0_at ∈ gx_TB := List.mem_filter.mpr ⟨List.mem_append_right _ (List.mem_of_getElem? (i := 164) (by decide +kernel)), by decide +kernel⟩
set_option maxRecDepth 100000 in
theorem mw_165 : Cond.code yX0_at cX0_at 2 (some .int) ∈ gx_TB := List.mem_filter.mpr ⟨List.mem_append_right _ (List.mem_of_getElem? (i := 165) rfl), by decide +kernel⟩
theorem mw_166 : Cond.methodLink RX1 42 yX1_nameLength ∈ gx_TB := List.mem_filter.mpr ⟨List.mem_append_right _ (List.mem_of_getElem? (i := 166) (by decide +kernel)), by decide +kernel⟩
theorem mw_167 : Cond.static yX1_nameLength ∈ gx_TB := List.mem_filter.mpr ⟨List.mem_append_right _ (List.mem_of_getElem? (i := 167) (by decide +kernel)), by decide +kernel⟩
set_option maxRecDepth 100000 in
theorem mw_168 : Cond.code yX1_nameLength cX1_nameLength 3 (some .int) ∈ gx_TB := List.mem_filter.mpr ⟨List.mem_append_right _ (List.mem_of_getElem? (i := 168) rfl), by decide +kernel⟩
theorem mw_169 : Cond.methodLink RX1 53 yX1_isOfName ∈ gx_TB := List.mem_filter.mpr ⟨List.mem_append_right _ (List.mem_of_getElem? (i := 169) (by decide +kernel)), by decide +kernel⟩
theorem mw_170 : Cond.static yX1_isOfName ∈ gx_TB := List.mem_filter.mpr ⟨List.mem_append_right _ (List.mem_of_getElem? (i := 170) (by decide +kernel)), by decide +kernel⟩
set_option maxRecDepth 100000 in
theorem mw_171 : Cond.code yX1_isOfName cX1_isOfName 1 (some .boolean) ∈ gx_TB := List.mem_filter.mpr ⟨List.mem_append_right _ (List.mem_of_getElem? (i := 171) rfl), by decide +kernel⟩
theorem mw_173 : Cond.static yX6_isSmallLetter ∈ gx_TB := List.mem_filter.mpr ⟨List.mem_append_right _ (List.mem_of_getElem? (i := 173) (by decide +kernel)), by decide +kernel⟩
set_option maxRecDepth 100000 in
theorem mw_174 : Cond.code yX6_isSmallLetter cX6_isSmallLetter 1 (some .boolean) ∈ gx_TB := List.mem_filter.mpr ⟨List.mem_append_right _ (List.mem_of_getElem? (i := 174) rfl), by decide +kernel⟩
theorem mw_176 : Cond.static yX6_isGreatLetter ∈ gx_TB := List.mem_filter.mpr ⟨List.mem_append_right _ (List.mem_of_getElem? (i := 176) (by decide +kernel)), by decide +kernel⟩
set_option maxRecDepth 100000 in
theorem mw_177 : Cond.code yX6_isGreatLetter cX6_isGreatLetter 1 (some .boolean) ∈ gx_TB := List.mem_filter.mpr ⟨List.mem_append_right _ (List.mem_of_getElem? (i := 177) rfl), by decide +kernel⟩
theorem mw_179 : Cond.static yX6_isDigit ∈ gx_TB := List.mem_filter.mpr ⟨List.mem_append_right _ (List.mem_of_getElem? (i := 179) (by decide +kernel)), by decide +kernel⟩
set_option maxRecDepth 100000 in
theorem mw_180 : Cond.code yX6_isDigit cX6_isDigit 1 (some .boolean) ∈ gx_TB := List.mem_filter.mpr ⟨List.mem_append_right _ (List.mem_of_getElem? (i := 180) rfl), by decide +kernel⟩
theorem mw_181 : Cond.methodLink RX1 34 yX1_fieldStop ∈ gx_TB := List.mem_filter.mpr ⟨List.mem_append_right _ (List.mem_of_getElem? (i := 181) (by decide +kernel)), by decide +kernel⟩
theorem mw_182 : Cond.static yX1_fieldStop ∈ gx_TB := List.mem_filter.mpr ⟨List.mem_append_right _ (List.mem_of_getElem? (i := 182) (by decide +kernel)), by decide +kernel⟩
set_option maxRecDepth 100000 in
theorem mw_183 : Cond.code yX1_fieldStop cX1_fieldStop 3 (some .int) ∈ gx_TB := List.mem_filter.mpr ⟨List.mem_append_right _ (List.mem_of_getElem? (i := 183) rfl), by decide +kernel⟩
theorem mw_185 : Cond.static yX6_isWhite ∈ gx_TB := List.mem_filter.mpr ⟨List.mem_append_right _ (List.mem_of_getElem? (i := 185) (by decide +kernel)), by decide +kernel⟩
set_option maxRecDepth 100000 in
theorem mw_186 : Cond.code yX6_isWhite cX6_isWhite 1 (some .boolean) ∈ gx_TB := List.mem_filter.mpr ⟨List.mem_append_right _ (List.mem_of_getElem? (i := 186) rfl), by decide +kernel⟩
theorem mw_187 : Cond.methodLink RX1 30 yX0_become ∈ gx_TB := List.mem_filter.mpr ⟨List.mem_append_right _ (List.mem_of_getElem? (i := 187) (by decide +kernel)), by decide +kernel⟩
theorem mw_188 : Cond.instanceMethod yX0_become ∈ gx_TB := List.mem_filter.mpr ⟨List.mem_append_right _ (List.mem_of_getElem? (i := 188) (by decide +kernel)), by decide +kernel⟩
theorem mw_189 : Cond.selects RX0 yX0_become yX0_become ∈ gx_TB := List.mem_filter.mpr ⟨List.mem_append_right _ (List.mem_of_getElem? (i := 189) (by decide +kernel)), by decide +kernel⟩
set_option maxRecDepth 100000 in
theorem mw_190 : Cond.code yX0_become cX0_become 2 none ∈ gx_TB := List.mem_filter.mpr ⟨List.mem_append_right _ (List.mem_of_getElem? (i := 190) rfl), by decide +kernel⟩
theorem mw_191 : Cond.methodLink RX0 27 yX0_clear ∈ gx_TB := List.mem_filter.mpr ⟨List.mem_append_right _ (List.mem_of_getElem? (i := 191) (by decide +kernel)), by decide +kernel⟩
theorem mw_192 : Cond.instanceMethod yX0_clear ∈ gx_TB := List.mem_filter.mpr ⟨List.mem_append_right _ (List.mem_of_getElem? (i := 192) (by decide +kernel)), by decide +kernel⟩
theorem mw_193 : Cond.selects RX0 yX0_clear yX0_clear ∈ gx_TB := List.mem_filter.mpr ⟨List.mem_append_right _ (List.mem_of_getElem? (i := 193) (by decide +kernel)), by decide +kernel⟩
set_option maxRecDepth 100000 in
theorem mw_194 : Cond.code yX0_clear cX0_clear 1 none ∈ gx_TB := List.mem_filter.mpr ⟨List.mem_append_right _ (List.mem_of_getElem? (i := 194) rfl), by decide +kernel⟩
theorem mw_195 : Cond.methodLink RX0 30 yX0_addPart ∈ gx_TB := List.mem_filter.mpr ⟨List.mem_append_right _ (List.mem_of_getElem? (i := 195) (by decide +kernel)), by decide +kernel⟩
theorem mw_196 : Cond.instanceMethod yX0_addPart ∈ gx_TB := List.mem_filter.mpr ⟨List.mem_append_right _ (List.mem_of_getElem? (i := 196) (by decide +kernel)), by decide +kernel⟩
theorem mw_197 : Cond.selects RX0 yX0_addPart yX0_addPart ∈ gx_TB := List.mem_filter.mpr ⟨List.mem_append_right _ (List.mem_of_getElem? (i := 197) (by decide +kernel)), by decide +kernel⟩
set_option maxRecDepth 100000 in
theorem mw_198 : Cond.code yX0_addPart cX0_addPart 5 none ∈ gx_TB := List.mem_filter.mpr ⟨List.mem_append_right _ (List.mem_of_getElem? (i := 198) rfl), by decide +kernel⟩
theorem mw_199 : Cond.methodLink RX0 23 yX0_at ∈ gx_TB := List.mem_filter.mpr ⟨List.mem_append_right _ (List.mem_of_getElem? (i := 199) (by decide +kernel)), by decide +kernel⟩
theorem mw_200 : Cond.methodLink RX6 62 yX0_clear ∈ gx_TB := List.mem_filter.mpr ⟨List.mem_append_right _ (List.mem_of_getElem? (i := 200) (by decide +kernel)), by decide +kernel⟩
theorem mw_205 : Cond.methodLink RX6 65 yX1_isMissing ∈ gx_TB := List.mem_filter.mpr ⟨List.mem_append_right _ (List.mem_of_getElem? (i := 205) (by decide +kernel)), by decide +kernel⟩
theorem mw_206 : Cond.instanceMethod yX1_isMissing ∈ gx_TB := List.mem_filter.mpr ⟨List.mem_append_right _ (List.mem_of_getElem? (i := 206) (by decide +kernel)), by decide +kernel⟩
theorem mw_207 : Cond.selects RX1 yX1_isMissing yX1_isMissing ∈ gx_TB := List.mem_filter.mpr ⟨List.mem_append_right _ (List.mem_of_getElem? (i := 207) (by decide +kernel)), by decide +kernel⟩
set_option maxRecDepth 100000 in
theorem mw_208 : Cond.code yX1_isMissing cX1_isMissing 1 (some .boolean) ∈ gx_TB := List.mem_filter.mpr ⟨List.mem_append_right _ (List.mem_of_getElem? (i := 208) rfl), by decide +kernel⟩
theorem mw_209 : Cond.methodLink RX6 69 yX1_writeBody ∈ gx_TB := List.mem_filter.mpr ⟨List.mem_append_right _ (List.mem_of_getElem? (i := 209) (by decide +kernel)), by decide +kernel⟩
theorem mw_210 : Cond.instanceMethod yX1_writeBody ∈ gx_TB := List.mem_filter.mpr ⟨List.mem_append_right _ (List.mem_of_getElem? (i := 210) (by decide +kernel)), by decide +kernel⟩
theorem mw_211 : Cond.selects RX1 yX1_writeBody yX1_writeBody ∈ gx_TB := List.mem_filter.mpr ⟨List.mem_append_right _ (List.mem_of_getElem? (i := 211) (by decide +kernel)), by decide +kernel⟩
set_option maxRecDepth 100000 in
theorem mw_212 : Cond.code yX1_writeBody cX1_writeBody 7 none ∈ gx_TB := List.mem_filter.mpr ⟨List.mem_append_right _ (List.mem_of_getElem? (i := 212) rfl), by decide +kernel⟩
theorem mw_213 : Cond.methodLink RX1 76 yX0_clear ∈ gx_TB := List.mem_filter.mpr ⟨List.mem_append_right _ (List.mem_of_getElem? (i := 213) (by decide +kernel)), by decide +kernel⟩
theorem mw_214 : Cond.methodLink RX1 79 yX0_addTimes ∈ gx_TB := List.mem_filter.mpr ⟨List.mem_append_right _ (List.mem_of_getElem? (i := 214) (by decide +kernel)), by decide +kernel⟩
theorem mw_215 : Cond.instanceMethod yX0_addTimes ∈ gx_TB := List.mem_filter.mpr ⟨List.mem_append_right _ (List.mem_of_getElem? (i := 215) (by decide +kernel)), by decide +kernel⟩
theorem mw_216 : Cond.selects RX0 yX0_addTimes yX0_addTimes ∈ gx_TB := List.mem_filter.mpr ⟨List.mem_append_right _ (List.mem_of_getElem? (i := 216) (by decide +kernel)), by decide +kernel⟩
set_option maxRecDepth 100000 in
theorem mw_217 : Cond.code yX0_addTimes cX0_addTimes 4 none ∈ gx_TB := List.mem_filter.mpr ⟨List.mem_append_right _ (List.mem_of_getElem? (i := 217) rfl), by decide +kernel⟩
theorem mw_218 : Cond.methodLink RX1 83 yX0_add ∈ gx_TB := List.mem_filter.mpr ⟨List.mem_append_right _ (List.mem_of_getElem? (i := 218) (by decide +kernel)), by decide +kernel⟩
theorem mw_223 : Cond.methodLink RX6 73 yX1_hasField ∈ gx_TB := List.mem_filter.mpr ⟨List.mem_append_right _ (List.mem_of_getElem? (i := 223) (by decide +kernel)), by decide +kernel⟩
theorem mw_224 : Cond.instanceMethod yX1_hasField ∈ gx_TB := List.mem_filter.mpr ⟨List.mem_append_right _ (List.mem_of_getElem? (i := 224) (by decide +kernel)), by decide +kernel⟩
theorem mw_225 : Cond.selects RX1 yX1_hasField yX1_hasField ∈ gx_TB := List.mem_filter.mpr ⟨List.mem_append_right _ (List.mem_of_getElem? (i := 225) (by decide +kernel)), by decide +kernel⟩
set_option maxRecDepth 100000 in
theorem mw_226 : Cond.code yX1_hasField cX1_hasField 2 (some .boolean) ∈ gx_TB := List.mem_filter.mpr ⟨List.mem_append_right _ (List.mem_of_getElem? (i := 226) rfl), by decide +kernel⟩
theorem mw_227 : Cond.methodLink RX6 77 yX1_writeRelaxedField ∈ gx_TB := List.mem_filter.mpr ⟨List.mem_append_right _ (List.mem_of_getElem? (i := 227) (by decide +kernel)), by decide +kernel⟩
theorem mw_228 : Cond.instanceMethod yX1_writeRelaxedField ∈ gx_TB := List.mem_filter.mpr ⟨List.mem_append_right _ (List.mem_of_getElem? (i := 228) (by decide +kernel)), by decide +kernel⟩
theorem mw_229 : Cond.selects RX1 yX1_writeRelaxedField yX1_writeRelaxedField ∈ gx_TB := List.mem_filter.mpr ⟨List.mem_append_right _ (List.mem_of_getElem? (i := 229) (by decide +kernel)), by decide +kernel⟩
set_option maxRecDepth 100000 in
theorem mw_230 : Cond.code yX1_writeRelaxedField cX1_writeRelaxedField 5 none ∈ gx_TB := List.mem_filter.mpr ⟨List.mem_append_right _ (List.mem_of_getElem? (i := 230) rfl), by decide +kernel⟩
theorem mw_232 : Cond.static yX6_small ∈ gx_TB := List.mem_filter.mpr ⟨List.mem_append_right _ (List.mem_of_getElem? (i := 232) (by decide +kernel)), by decide +kernel⟩
set_option maxRecDepth 100000 in
theorem mw_233 : Cond.code yX6_small cX6_small 1 (some .int) ∈ gx_TB := List.mem_filter.mpr ⟨List.mem_append_right _ (List.mem_of_getElem? (i := 233) rfl), by decide +kernel⟩
theorem mw_234 : Cond.methodLink RX6 122 yX6_isGreatLetter ∈ gx_TB := List.mem_filter.mpr ⟨List.mem_append_right _ (List.mem_of_getElem? (i := 234) (by decide +kernel)), by decide +kernel⟩
theorem mw_235 : Cond.methodLink RX1 91 yX1_addRelaxedValue ∈ gx_TB := List.mem_filter.mpr ⟨List.mem_append_right _ (List.mem_of_getElem? (i := 235) (by decide +kernel)), by decide +kernel⟩
theorem mw_237 : Cond.instanceMethod yX1_addRelaxedValue ∈ gx_TB := List.mem_filter.mpr ⟨List.mem_append_right _ (List.mem_of_getElem? (i := 237) (by decide +kernel)), by decide +kernel⟩
set_option maxRecDepth 100000 in
theorem mw_238 : Cond.code yX1_addRelaxedValue cX1_addRelaxedValue 8 none ∈ gx_TB := List.mem_filter.mpr ⟨List.mem_append_right _ (List.mem_of_getElem? (i := 238) rfl), by decide +kernel⟩
theorem mw_239 : Cond.methodLink RX6 81 yX1_writeSimpleField ∈ gx_TB := List.mem_filter.mpr ⟨List.mem_append_right _ (List.mem_of_getElem? (i := 239) (by decide +kernel)), by decide +kernel⟩
theorem mw_240 : Cond.instanceMethod yX1_writeSimpleField ∈ gx_TB := List.mem_filter.mpr ⟨List.mem_append_right _ (List.mem_of_getElem? (i := 240) (by decide +kernel)), by decide +kernel⟩
theorem mw_241 : Cond.selects RX1 yX1_writeSimpleField yX1_writeSimpleField ∈ gx_TB := List.mem_filter.mpr ⟨List.mem_append_right _ (List.mem_of_getElem? (i := 241) (by decide +kernel)), by decide +kernel⟩
set_option maxRecDepth 100000 in
theorem mw_242 : Cond.code yX1_writeSimpleField cX1_writeSimpleField 5 none ∈ gx_TB := List.mem_filter.mpr ⟨List.mem_append_right _ (List.mem_of_getElem? (i := 242) rfl), by decide +kernel⟩
theorem mw_243 : Cond.methodLink RX1 87 yX0_addPart ∈ gx_TB := List.mem_filter.mpr ⟨List.mem_append_right _ (List.mem_of_getElem? (i := 243) (by decide +kernel)), by decide +kernel⟩
theorem mw_248 : Cond.methodLink RX6 84 yX1_countNamed ∈ gx_TB := List.mem_filter.mpr ⟨List.mem_append_right _ (List.mem_of_getElem? (i := 248) (by decide +kernel)), by decide +kernel⟩
theorem mw_249 : Cond.instanceMethod yX1_countNamed ∈ gx_TB := List.mem_filter.mpr ⟨List.mem_append_right _ (List.mem_of_getElem? (i := 249) (by decide +kernel)), by decide +kernel⟩
theorem mw_250 : Cond.selects RX1 yX1_countNamed yX1_countNamed ∈ gx_TB := List.mem_filter.mpr ⟨List.mem_append_right _ (List.mem_of_getElem? (i := 250) (by decide +kernel)), by decide +kernel⟩
set_option maxRecDepth 100000 in
theorem mw_251 : Cond.code yX1_countNamed cX1_countNamed 4 (some .int) ∈ gx_TB := List.mem_filter.mpr ⟨List.mem_append_right _ (List.mem_of_getElem? (i := 251) rfl), by decide +kernel⟩
theorem mw_252 : Cond.methodLink RX1 69 yX1_isNamed ∈ gx_TB := List.mem_filter.mpr ⟨List.mem_append_right _ (List.mem_of_getElem? (i := 252) (by decide +kernel)), by decide +kernel⟩
theorem mw_254 : Cond.instanceMethod yX1_isNamed ∈ gx_TB := List.mem_filter.mpr ⟨List.mem_append_right _ (List.mem_of_getElem? (i := 254) (by decide +kernel)), by decide +kernel⟩
set_option maxRecDepth 100000 in
theorem mw_255 : Cond.code yX1_isNamed cX1_isNamed 4 (some .boolean) ∈ gx_TB := List.mem_filter.mpr ⟨List.mem_append_right _ (List.mem_of_getElem? (i := 255) rfl), by decide +kernel⟩
theorem mw_260 : Cond.methodLink RX6 87 yX5_read ∈ gx_TB := List.mem_filter.mpr ⟨List.mem_append_right _ (List.mem_of_getElem? (i := 260) (by decide +kernel)), by decide +kernel⟩
theorem mw_261 : Cond.instanceMethod yX5_read ∈ gx_TB := List.mem_filter.mpr ⟨List.mem_append_right _ (List.mem_of_getElem? (i := 261) (by decide +kernel)), by decide +kernel⟩
theorem mw_262 : Cond.selects RX5 yX5_read yX5_read ∈ gx_TB := List.mem_filter.mpr ⟨List.mem_append_right _ (List.mem_of_getElem? (i := 262) (by decide +kernel)), by decide +kernel⟩
set_option maxRecDepth 100000 in
theorem mw_263 : Cond.code yX5_read cX5_read 3 (some .int) ∈ gx_TB := List.mem_filter.mpr ⟨List.mem_append_right _ (List.mem_of_getElem? (i := 263) rfl), by decide +kernel⟩
theorem mw_264 : Cond.methodLink RX5 18 yX0_dropWhiteAndNewlines ∈ gx_TB := List.mem_filter.mpr ⟨List.mem_append_right _ (List.mem_of_getElem? (i := 264) (by decide +kernel)), by decide +kernel⟩
theorem mw_265 : Cond.instanceMethod yX0_dropWhiteAndNewlines ∈ gx_TB := List.mem_filter.mpr ⟨List.mem_append_right _ (List.mem_of_getElem? (i := 265) (by decide +kernel)), by decide +kernel⟩
theorem mw_266 : Cond.selects RX0 yX0_dropWhiteAndNewlines yX0_dropWhiteAndNewlines ∈ gx_TB := List.mem_filter.mpr ⟨List.mem_append_right _ (List.mem_of_getElem? (i := 266) (by decide +kernel)), by decide +kernel⟩
set_option maxRecDepth 100000 in
theorem mw_267 : Cond.code yX0_dropWhiteAndNewlines cX0_dropWhiteAndNewlines 4 none ∈ gx_TB := List.mem_filter.mpr ⟨List.mem_append_right _ (List.mem_of_getElem? (i := 267) rfl), by decide +kernel⟩
theorem mw_269 : Cond.methodLink RX5 21 yX0_size ∈ gx_TB := List.mem_filter.mpr ⟨List.mem_append_right _ (List.mem_of_getElem? (i := 269) (by decide +kernel)), by decide +kernel⟩
theorem mw_270 : Cond.methodLink RX5 25 yX0_at ∈ gx_TB := List.mem_filter.mpr ⟨List.mem_append_right _ (List.mem_of_getElem? (i := 270) (by decide +kernel)), by decide +kernel⟩
theorem mw_271 : Cond.methodLink RX5 29 yX0_cutTo ∈ gx_TB := List.mem_filter.mpr ⟨List.mem_append_right _ (List.mem_of_getElem? (i := 271) (by decide +kernel)), by decide +kernel⟩
theorem mw_272 : Cond.methodLink RX5 33 yX5_countTags ∈ gx_TB := List.mem_filter.mpr ⟨List.mem_append_right _ (List.mem_of_getElem? (i := 272) (by decide +kernel)), by decide +kernel⟩
theorem mw_273 : Cond.static yX5_countTags ∈ gx_TB := List.mem_filter.mpr ⟨List.mem_append_right _ (List.mem_of_getElem? (i := 273) (by decide +kernel)), by decide +kernel⟩
set_option maxRecDepth 100000 in
theorem mw_274 : Cond.code yX5_countTags cX5_countTags 5 (some .int) ∈ gx_TB := List.mem_filter.mpr ⟨List.mem_append_right _ (List.mem_of_getElem? (i := 274) rfl), by decide +kernel⟩
theorem mw_275 : Cond.methodLink RX5 41 yX5_lettersLength ∈ gx_TB := List.mem_filter.mpr ⟨List.mem_append_right _ (List.mem_of_getElem? (i := 275) (by decide +kernel)), by decide +kernel⟩
theorem mw_276 : Cond.static yX5_lettersLength ∈ gx_TB := List.mem_filter.mpr ⟨List.mem_append_right _ (List.mem_of_getElem? (i := 276) (by decide +kernel)), by decide +kernel⟩
set_option maxRecDepth 100000 in
theorem mw_277 : Cond.code yX5_lettersLength cX5_lettersLength 3 (some .int) ∈ gx_TB := List.mem_filter.mpr ⟨List.mem_append_right _ (List.mem_of_getElem? (i := 277) rfl), by decide +kernel⟩
theorem mw_279 : Cond.methodLink RX5 45 yX5_valueOf ∈ gx_TB := List.mem_filter.mpr ⟨List.mem_append_right _ (List.mem_of_getElem? (i := 279) (by decide +kernel)), by decide +kernel⟩
theorem mw_280 : Cond.static yX5_valueOf ∈ gx_TB := List.mem_filter.mpr ⟨List.mem_append_right _ (List.mem_of_getElem? (i := 280) (by decide +kernel)), by decide +kernel⟩
set_option maxRecDepth 100000 in
theorem mw_281 : Cond.code yX5_valueOf cX5_valueOf 7 (some .int) ∈ gx_TB := List.mem_filter.mpr ⟨List.mem_append_right _ (List.mem_of_getElem? (i := 281) rfl), by decide +kernel⟩
theorem mw_282 : Cond.methodLink RX5 57 yX5_isSame ∈ gx_TB := List.mem_filter.mpr ⟨List.mem_append_right _ (List.mem_of_getElem? (i := 282) (by decide +kernel)), by decide +kernel⟩
theorem mw_283 : Cond.static yX5_isSame ∈ gx_TB := List.mem_filter.mpr ⟨List.mem_append_right _ (List.mem_of_getElem? (i := 283) (by decide +kernel)), by decide +kernel⟩
set_option maxRecDepth 100000 in
theorem mw_284 : Cond.code yX5_isSame cX5_isSame 6 (some .boolean) ∈ gx_TB := List.mem_filter.mpr ⟨List.mem_append_right _ (List.mem_of_getElem? (i := 284) rfl), by decide +kernel⟩
theorem mw_285 : Cond.methodLink RX5 49 yX0_find ∈ gx_TB := List.mem_filter.mpr ⟨List.mem_append_right _ (List.mem_of_getElem? (i := 285) (by decide +kernel)), by decide +kernel⟩
theorem mw_286 : Cond.instanceMethod yX0_find ∈ gx_TB := List.mem_filter.mpr ⟨List.mem_append_right _ (List.mem_of_getElem? (i := 286) (by decide +kernel)), by decide +kernel⟩
theorem mw_287 : Cond.selects RX0 yX0_find yX0_find ∈ gx_TB := List.mem_filter.mpr ⟨List.mem_append_right _ (List.mem_of_getElem? (i := 287) (by decide +kernel)), by decide +kernel⟩
set_option maxRecDepth 100000 in
theorem mw_288 : Cond.code yX0_find cX0_find 4 (some .int) ∈ gx_TB := List.mem_filter.mpr ⟨List.mem_append_right _ (List.mem_of_getElem? (i := 288) rfl), by decide +kernel⟩
theorem mw_289 : Cond.methodLink RX5 37 yX0_become ∈ gx_TB := List.mem_filter.mpr ⟨List.mem_append_right _ (List.mem_of_getElem? (i := 289) (by decide +kernel)), by decide +kernel⟩
theorem mw_294 : Cond.methodLink RX6 88 yX5_writeValue ∈ gx_TB := List.mem_filter.mpr ⟨List.mem_append_right _ (List.mem_of_getElem? (i := 294) (by decide +kernel)), by decide +kernel⟩
theorem mw_295 : Cond.instanceMethod yX5_writeValue ∈ gx_TB := List.mem_filter.mpr ⟨List.mem_append_right _ (List.mem_of_getElem? (i := 295) (by decide +kernel)), by decide +kernel⟩
theorem mw_296 : Cond.selects RX5 yX5_writeValue yX5_writeValue ∈ gx_TB := List.mem_filter.mpr ⟨List.mem_append_right _ (List.mem_of_getElem? (i := 296) (by decide +kernel)), by decide +kernel⟩
set_option maxRecDepth 100000 in
theorem mw_297 : Cond.code yX5_writeValue cX5_writeValue 4 (some .int) ∈ gx_TB := List.mem_filter.mpr ⟨List.mem_append_right _ (List.mem_of_getElem? (i := 297) rfl), by decide +kernel⟩
theorem mw_298 : Cond.methodLink RX5 61 yX0_clear ∈ gx_TB := List.mem_filter.mpr ⟨List.mem_append_right _ (List.mem_of_getElem? (i := 298) (by decide +kernel)), by decide +kernel⟩
theorem mw_299 : Cond.methodLink RX5 64 yX0_addPart ∈ gx_TB := List.mem_filter.mpr ⟨List.mem_append_right _ (List.mem_of_getElem? (i := 299) (by decide +kernel)), by decide +kernel⟩
theorem mw_304 : Cond.methodLink RX6 94 yX4_areOf ∈ gx_TB := List.mem_filter.mpr ⟨List.mem_append_right _ (List.mem_of_getElem? (i := 304) (by decide +kernel)), by decide +kernel⟩
theorem mw_305 : Cond.static yX4_areOf ∈ gx_TB := List.mem_filter.mpr ⟨List.mem_append_right _ (List.mem_of_getElem? (i := 305) (by decide +kernel)), by decide +kernel⟩
set_option maxRecDepth 100000 in
theorem mw_306 : Cond.code yX4_areOf cX4_areOf 5 (some .boolean) ∈ gx_TB := List.mem_filter.mpr ⟨List.mem_append_right _ (List.mem_of_getElem? (i := 306) rfl), by decide +kernel⟩
theorem mw_307 : Cond.methodLink RX4 9 yX4_lettersFor ∈ gx_TB := List.mem_filter.mpr ⟨List.mem_append_right _ (List.mem_of_getElem? (i := 307) (by decide +kernel)), by decide +kernel⟩
theorem mw_308 : Cond.static yX4_lettersFor ∈ gx_TB := List.mem_filter.mpr ⟨List.mem_append_right _ (List.mem_of_getElem? (i := 308) (by decide +kernel)), by decide +kernel⟩
set_option maxRecDepth 100000 in
theorem mw_309 : Cond.code yX4_lettersFor cX4_lettersFor 1 (some .int) ∈ gx_TB := List.mem_filter.mpr ⟨List.mem_append_right _ (List.mem_of_getElem? (i := 309) rfl), by decide +kernel⟩
theorem mw_310 : Cond.methodLink RX4 15 yX0_size ∈ gx_TB := List.mem_filter.mpr ⟨List.mem_append_right _ (List.mem_of_getElem? (i := 310) (by decide +kernel)), by decide +kernel⟩
theorem mw_311 : Cond.methodLink RX4 21 yX0_at ∈ gx_TB := List.mem_filter.mpr ⟨List.mem_append_right _ (List.mem_of_getElem? (i := 311) (by decide +kernel)), by decide +kernel⟩
theorem mw_312 : Cond.methodLink RX4 24 yX4_sixBits ∈ gx_TB := List.mem_filter.mpr ⟨List.mem_append_right _ (List.mem_of_getElem? (i := 312) (by decide +kernel)), by decide +kernel⟩
theorem mw_313 : Cond.static yX4_sixBits ∈ gx_TB := List.mem_filter.mpr ⟨List.mem_append_right _ (List.mem_of_getElem? (i := 313) (by decide +kernel)), by decide +kernel⟩
set_option maxRecDepth 100000 in
theorem mw_314 : Cond.code yX4_sixBits cX4_sixBits 1 (some .int) ∈ gx_TB := List.mem_filter.mpr ⟨List.mem_append_right _ (List.mem_of_getElem? (i := 314) rfl), by decide +kernel⟩
theorem mw_318 : Cond.methodLink RX4 27 yX4_bitsOver ∈ gx_TB := List.mem_filter.mpr ⟨List.mem_append_right _ (List.mem_of_getElem? (i := 318) (by decide +kernel)), by decide +kernel⟩
theorem mw_319 : Cond.static yX4_bitsOver ∈ gx_TB := List.mem_filter.mpr ⟨List.mem_append_right _ (List.mem_of_getElem? (i := 319) (by decide +kernel)), by decide +kernel⟩
set_option maxRecDepth 100000 in
theorem mw_320 : Cond.code yX4_bitsOver cX4_bitsOver 1 (some .int) ∈ gx_TB := List.mem_filter.mpr ⟨List.mem_append_right _ (List.mem_of_getElem? (i := 320) rfl), by decide +kernel⟩
theorem mw_321 : Cond.methodLink RX6 98 yX4_write ∈ gx_TB := List.mem_filter.mpr ⟨List.mem_append_right _ (List.mem_of_getElem? (i := 321) (by decide +kernel)), by decide +kernel⟩
theorem mw_322 : Cond.static yX4_write ∈ gx_TB := List.mem_filter.mpr ⟨List.mem_append_right _ (List.mem_of_getElem? (i := 322) (by decide +kernel)), by decide +kernel⟩
set_option maxRecDepth 100000 in
theorem mw_323 : Cond.code yX4_write cX4_write 6 none ∈ gx_TB := List.mem_filter.mpr ⟨List.mem_append_right _ (List.mem_of_getElem? (i := 323) rfl), by decide +kernel⟩
theorem mw_324 : Cond.methodLink RX4 40 yX0_clear ∈ gx_TB := List.mem_filter.mpr ⟨List.mem_append_right _ (List.mem_of_getElem? (i := 324) (by decide +kernel)), by decide +kernel⟩
theorem mw_325 : Cond.methodLink RX4 43 yX0_add ∈ gx_TB := List.mem_filter.mpr ⟨List.mem_append_right _ (List.mem_of_getElem? (i := 325) (by decide +kernel)), by decide +kernel⟩
theorem mw_330 : Cond.methodLink RX6 102 yX3_write ∈ gx_TB := List.mem_filter.mpr ⟨List.mem_append_right _ (List.mem_of_getElem? (i := 330) (by decide +kernel)), by decide +kernel⟩
theorem mw_331 : Cond.instanceMethod yX3_write ∈ gx_TB := List.mem_filter.mpr ⟨List.mem_append_right _ (List.mem_of_getElem? (i := 331) (by decide +kernel)), by decide +kernel⟩
theorem mw_332 : Cond.selects RX3 yX3_write yX3_write ∈ gx_TB := List.mem_filter.mpr ⟨List.mem_append_right _ (List.mem_of_getElem? (i := 332) (by decide +kernel)), by decide +kernel⟩
set_option maxRecDepth 100000 in
theorem mw_333 : Cond.code yX3_write cX3_write 5 none ∈ gx_TB := List.mem_filter.mpr ⟨List.mem_append_right _ (List.mem_of_getElem? (i := 333) rfl), by decide +kernel⟩
theorem mw_334 : Cond.methodLink RX3 19 yX0_size ∈ gx_TB := List.mem_filter.mpr ⟨List.mem_append_right _ (List.mem_of_getElem? (i := 334) (by decide +kernel)), by decide +kernel⟩
theorem mw_335 : Cond.fieldLink RX3 25 "PlainSeal$Sha256" "FIRST_STATE" "[I" ∈ gx_TB := List.mem_filter.mpr ⟨List.mem_append_right _ (List.mem_of_getElem? (i := 335) (by decide +kernel)), by decide +kernel⟩
theorem mw_337 : Cond.methodLink RX3 28 arraycopyName ∈ gx_TB := List.mem_filter.mpr ⟨List.mem_append_right _ (List.mem_of_getElem? (i := 337) (by decide +kernel)), by decide +kernel⟩
theorem mw_338 : Cond.static arraycopyName ∈ gx_TB := List.mem_filter.mpr ⟨List.mem_append_right _ (List.mem_of_getElem? (i := 338) (by decide +kernel)), by decide +kernel⟩
theorem mw_339 : Cond.native arraycopyName ∈ gx_TB := List.mem_filter.mpr ⟨List.mem_append_right _ (List.mem_of_getElem? (i := 339) (by decide +kernel)), by decide +kernel⟩
theorem mw_340 : Cond.methodLink RX3 34 yX3_fillSchedule ∈ gx_TB := List.mem_filter.mpr ⟨List.mem_append_right _ (List.mem_of_getElem? (i := 340) (by decide +kernel)), by decide +kernel⟩
theorem mw_342 : Cond.instanceMethod yX3_fillSchedule ∈ gx_TB := List.mem_filter.mpr ⟨List.mem_append_right _ (List.mem_of_getElem? (i := 342) (by decide +kernel)), by decide +kernel⟩
set_option maxRecDepth 100000 in
theorem mw_343 : Cond.code yX3_fillSchedule cX3_fillSchedule 9 none ∈ gx_TB := List.mem_filter.mpr ⟨List.mem_append_right _ (List.mem_of_getElem? (i := 343) rfl), by decide +kernel⟩
theorem mw_344 : Cond.methodLink RX3 48 yX3_paddedWord ∈ gx_TB := List.mem_filter.mpr ⟨List.mem_append_right _ (List.mem_of_getElem? (i := 344) (by decide +kernel)), by decide +kernel⟩
theorem mw_345 : Cond.static yX3_paddedWord ∈ gx_TB := List.mem_filter.mpr ⟨List.mem_append_right _ (List.mem_of_getElem? (i := 345) (by decide +kernel)), by decide +kernel⟩
set_option maxRecDepth 100000 in
theorem mw_346 : Cond.code yX3_paddedWord cX3_paddedWord 4 (some .int) ∈ gx_TB := List.mem_filter.mpr ⟨List.mem_append_right _ (List.mem_of_getElem? (i := 346) rfl), by decide +kernel⟩
theorem mw_347 : Cond.methodLink RX3 56 yX3_paddedByte ∈ gx_TB := List.mem_filter.mpr ⟨List.mem_append_right _ (List.mem_of_getElem? (i := 347) (by decide +kernel)), by decide +kernel⟩
theorem mw_348 : Cond.static yX3_paddedByte ∈ gx_TB := List.mem_filter.mpr ⟨List.mem_append_right _ (List.mem_of_getElem? (i := 348) (by decide +kernel)), by decide +kernel⟩
set_option maxRecDepth 100000 in
theorem mw_349 : Cond.code yX3_paddedByte cX3_paddedByte 2 (some .int) ∈ gx_TB := List.mem_filter.mpr ⟨List.mem_append_right _ (List.mem_of_getElem? (i := 349) rfl), by decide +kernel⟩
theorem mw_350 : Cond.methodLink RX3 59 yX0_at ∈ gx_TB := List.mem_filter.mpr ⟨List.mem_append_right _ (List.mem_of_getElem? (i := 350) (by decide +kernel)), by decide +kernel⟩
theorem mw_351 : Cond.methodLink RX3 52 yX3_turned ∈ gx_TB := List.mem_filter.mpr ⟨List.mem_append_right _ (List.mem_of_getElem? (i := 351) (by decide +kernel)), by decide +kernel⟩
theorem mw_352 : Cond.static yX3_turned ∈ gx_TB := List.mem_filter.mpr ⟨List.mem_append_right _ (List.mem_of_getElem? (i := 352) (by decide +kernel)), by decide +kernel⟩
set_option maxRecDepth 100000 in
theorem mw_353 : Cond.code yX3_turned cX3_turned 2 (some .int) ∈ gx_TB := List.mem_filter.mpr ⟨List.mem_append_right _ (List.mem_of_getElem? (i := 353) rfl), by decide +kernel⟩
theorem mw_354 : Cond.methodLink RX3 38 yX3_mixBlock ∈ gx_TB := List.mem_filter.mpr ⟨List.mem_append_right _ (List.mem_of_getElem? (i := 354) (by decide +kernel)), by decide +kernel⟩
theorem mw_356 : Cond.instanceMethod yX3_mixBlock ∈ gx_TB := List.mem_filter.mpr ⟨List.mem_append_right _ (List.mem_of_getElem? (i := 356) (by decide +kernel)), by decide +kernel⟩
set_option maxRecDepth 100000 in
theorem mw_357 : Cond.code yX3_mixBlock cX3_mixBlock 2 none ∈ gx_TB := List.mem_filter.mpr ⟨List.mem_append_right _ (List.mem_of_getElem? (i := 357) rfl), by decide +kernel⟩
theorem mw_358 : Cond.fieldLink RX3 63 "PlainSeal$Sha256" "ROUND_WORDS" "[I" ∈ gx_TB := List.mem_filter.mpr ⟨List.mem_append_right _ (List.mem_of_getElem? (i := 358) (by decide +kernel)), by decide +kernel⟩
theorem mw_360 : Cond.methodLink RX3 66 yX3_mixRound ∈ gx_TB := List.mem_filter.mpr ⟨List.mem_append_right _ (List.mem_of_getElem? (i := 360) (by decide +kernel)), by decide +kernel⟩
theorem mw_362 : Cond.instanceMethod yX3_mixRound ∈ gx_TB := List.mem_filter.mpr ⟨List.mem_append_right _ (List.mem_of_getElem? (i := 362) (by decide +kernel)), by decide +kernel⟩
set_option maxRecDepth 100000 in
theorem mw_363 : Cond.code yX3_mixRound cX3_mixRound 9 none ∈ gx_TB := List.mem_filter.mpr ⟨List.mem_append_right _ (List.mem_of_getElem? (i := 363) rfl), by decide +kernel⟩
theorem mw_364 : Cond.methodLink RX3 41 yX0_clear ∈ gx_TB := List.mem_filter.mpr ⟨List.mem_append_right _ (List.mem_of_getElem? (i := 364) (by decide +kernel)), by decide +kernel⟩
theorem mw_365 : Cond.methodLink RX3 44 yX0_addWord ∈ gx_TB := List.mem_filter.mpr ⟨List.mem_append_right _ (List.mem_of_getElem? (i := 365) (by decide +kernel)), by decide +kernel⟩
theorem mw_370 : Cond.methodLink RX6 105 yX2_canTake ∈ gx_TB := List.mem_filter.mpr ⟨List.mem_append_right _ (List.mem_of_getElem? (i := 370) (by decide +kernel)), by decide +kernel⟩
theorem mw_371 : Cond.instanceMethod yX2_canTake ∈ gx_TB := List.mem_filter.mpr ⟨List.mem_append_right _ (List.mem_of_getElem? (i := 371) (by decide +kernel)), by decide +kernel⟩
theorem mw_372 : Cond.selects RX2 yX2_canTake yX2_canTake ∈ gx_TB := List.mem_filter.mpr ⟨List.mem_append_right _ (List.mem_of_getElem? (i := 372) (by decide +kernel)), by decide +kernel⟩
set_option maxRecDepth 100000 in
theorem mw_373 : Cond.code yX2_canTake cX2_canTake 2 (some .boolean) ∈ gx_TB := List.mem_filter.mpr ⟨List.mem_append_right _ (List.mem_of_getElem? (i := 373) rfl), by decide +kernel⟩
theorem mw_374 : Cond.methodLink RX2 22 yX0_size ∈ gx_TB := List.mem_filter.mpr ⟨List.mem_append_right _ (List.mem_of_getElem? (i := 374) (by decide +kernel)), by decide +kernel⟩
theorem mw_375 : Cond.methodLink RX2 28 yX0_at ∈ gx_TB := List.mem_filter.mpr ⟨List.mem_append_right _ (List.mem_of_getElem? (i := 375) (by decide +kernel)), by decide +kernel⟩
theorem mw_376 : Cond.methodLink RX6 109 yX2_take ∈ gx_TB := List.mem_filter.mpr ⟨List.mem_append_right _ (List.mem_of_getElem? (i := 376) (by decide +kernel)), by decide +kernel⟩
theorem mw_377 : Cond.instanceMethod yX2_take ∈ gx_TB := List.mem_filter.mpr ⟨List.mem_append_right _ (List.mem_of_getElem? (i := 377) (by decide +kernel)), by decide +kernel⟩
theorem mw_378 : Cond.selects RX2 yX2_take yX2_take ∈ gx_TB := List.mem_filter.mpr ⟨List.mem_append_right _ (List.mem_of_getElem? (i := 378) (by decide +kernel)), by decide +kernel⟩
set_option maxRecDepth 100000 in
theorem mw_379 : Cond.code yX2_take cX2_take 2 none ∈ gx_TB := List.mem_filter.mpr ⟨List.mem_append_right _ (List.mem_of_getElem? (i := 379) rfl), by decide +kernel⟩
theorem mw_380 : Cond.methodLink RX2 32 yX2_takeNumber ∈ gx_TB := List.mem_filter.mpr ⟨List.mem_append_right _ (List.mem_of_getElem? (i := 380) (by decide +kernel)), by decide +kernel⟩
theorem mw_381 : Cond.static yX2_takeNumber ∈ gx_TB := List.mem_filter.mpr ⟨List.mem_append_right _ (List.mem_of_getElem? (i := 381) (by decide +kernel)), by decide +kernel⟩
set_option maxRecDepth 100000 in
theorem mw_382 : Cond.code yX2_takeNumber cX2_takeNumber 5 none ∈ gx_TB := List.mem_filter.mpr ⟨List.mem_append_right _ (List.mem_of_getElem? (i := 382) rfl), by decide +kernel⟩
theorem mw_383 : Cond.methodLink RX6 113 yX2_raise ∈ gx_TB := List.mem_filter.mpr ⟨List.mem_append_right _ (List.mem_of_getElem? (i := 383) (by decide +kernel)), by decide +kernel⟩
theorem mw_384 : Cond.instanceMethod yX2_raise ∈ gx_TB := List.mem_filter.mpr ⟨List.mem_append_right _ (List.mem_of_getElem? (i := 384) (by decide +kernel)), by decide +kernel⟩
theorem mw_385 : Cond.selects RX2 yX2_raise yX2_raise ∈ gx_TB := List.mem_filter.mpr ⟨List.mem_append_right _ (List.mem_of_getElem? (i := 385) (by decide +kernel)), by decide +kernel⟩
set_option maxRecDepth 100000 in
theorem mw_386 : Cond.code yX2_raise cX2_raise 2 none ∈ gx_TB := List.mem_filter.mpr ⟨List.mem_append_right _ (List.mem_of_getElem? (i := 386) rfl), by decide +kernel⟩
theorem mw_387 : Cond.methodLink RX2 43 yX2_bringBaseBelowModulus ∈ gx_TB := List.mem_filter.mpr ⟨List.mem_append_right _ (List.mem_of_getElem? (i := 387) (by decide +kernel)), by decide +kernel⟩
theorem mw_389 : Cond.instanceMethod yX2_bringBaseBelowModulus ∈ gx_TB := List.mem_filter.mpr ⟨List.mem_append_right _ (List.mem_of_getElem? (i := 389) (by decide +kernel)), by decide +kernel⟩
set_option maxRecDepth 100000 in
theorem mw_390 : Cond.code yX2_bringBaseBelowModulus cX2_bringBaseBelowModulus 2 none ∈ gx_TB := List.mem_filter.mpr ⟨List.mem_append_right _ (List.mem_of_getElem? (i := 390) rfl), by decide +kernel⟩
theorem mw_391 : Cond.methodLink RX2 50 yX2_divideProduct ∈ gx_TB := List.mem_filter.mpr ⟨List.mem_append_right _ (List.mem_of_getElem? (i := 391) (by decide +kernel)), by decide +kernel⟩
theorem mw_393 : Cond.instanceMethod yX2_divideProduct ∈ gx_TB := List.mem_filter.mpr ⟨List.mem_append_right _ (List.mem_of_getElem? (i := 393) (by decide +kernel)), by decide +kernel⟩
set_option maxRecDepth 100000 in
theorem mw_394 : Cond.code yX2_divideProduct cX2_divideProduct 2 none ∈ gx_TB := List.mem_filter.mpr ⟨List.mem_append_right _ (List.mem_of_getElem? (i := 394) rfl), by decide +kernel⟩
theorem mw_395 : Cond.methodLink RX2 55 yX2_guessedDigit ∈ gx_TB := List.mem_filter.mpr ⟨List.mem_append_right _ (List.mem_of_getElem? (i := 395) (by decide +kernel)), by decide +kernel⟩
theorem mw_397 : Cond.instanceMethod yX2_guessedDigit ∈ gx_TB := List.mem_filter.mpr ⟨List.mem_append_right _ (List.mem_of_getElem? (i := 397) (by decide +kernel)), by decide +kernel⟩
set_option maxRecDepth 100000 in
theorem mw_398 : Cond.code yX2_guessedDigit cX2_guessedDigit 6 (some .long) ∈ gx_TB := List.mem_filter.mpr ⟨List.mem_append_right _ (List.mem_of_getElem? (i := 398) rfl), by decide +kernel⟩
theorem mw_399 : Cond.constant RX2 63 (32768) ∈ gx_TB := List.mem_filter.mpr ⟨List.mem_append_right _ (List.mem_of_getElem? (i := 399) (by decide +kernel)), by decide +kernel⟩
theorem mw_400 : Cond.constantLong RX2 53 (65535) ∈ gx_TB := List.mem_filter.mpr ⟨List.mem_append_right _ (List.mem_of_getElem? (i := 400) (by decide +kernel)), by decide +kernel⟩
theorem mw_401 : Cond.methodLink RX2 64 Lib.MathLoose.min_long.x ∈ gx_TB := List.mem_filter.mpr ⟨List.mem_append_right _ (List.mem_of_getElem? (i := 401) (by decide +kernel)), by decide +kernel⟩
theorem mw_402 : Cond.static Lib.MathLoose.min_long.x ∈ gx_TB := List.mem_filter.mpr ⟨List.mem_append_right _ (List.mem_of_getElem? (i := 402) (by decide +kernel)), by decide +kernel⟩
set_option maxRecDepth 100000 in
theorem mw_403 : Cond.code Lib.MathLoose.min_long.x Lib.MathLoose.min_long.code 4 (some .long) ∈ gx_TB := List.mem_filter.mpr ⟨List.mem_append_right _ (List.mem_of_getElem? (i := 403) rfl), by decide +kernel⟩
theorem mw_404 : Cond.methodLink RX2 59 yX2_takeAway ∈ gx_TB := List.mem_filter.mpr ⟨List.mem_append_right _ (List.mem_of_getElem? (i := 404) (by decide +kernel)), by decide +kernel⟩
theorem mw_406 : Cond.instanceMethod yX2_takeAway ∈ gx_TB := List.mem_filter.mpr ⟨List.mem_append_right _ (List.mem_of_getElem? (i := 406) (by decide +kernel)), by decide +kernel⟩
set_option maxRecDepth 100000 in
theorem mw_407 : Cond.code yX2_takeAway cX2_takeAway 9 none ∈ gx_TB := List.mem_filter.mpr ⟨List.mem_append_right _ (List.mem_of_getElem? (i := 407) rfl), by decide +kernel⟩
theorem mw_408 : Cond.methodLink RX2 70 yX2_giveBack ∈ gx_TB := List.mem_filter.mpr ⟨List.mem_append_right _ (List.mem_of_getElem? (i := 408) (by decide +kernel)), by decide +kernel⟩
theorem mw_410 : Cond.instanceMethod yX2_giveBack ∈ gx_TB := List.mem_filter.mpr ⟨List.mem_append_right _ (List.mem_of_getElem? (i := 410) (by decide +kernel)), by decide +kernel⟩
set_option maxRecDepth 100000 in
theorem mw_411 : Cond.code yX2_giveBack cX2_giveBack 5 (some .long) ∈ gx_TB := List.mem_filter.mpr ⟨List.mem_append_right _ (List.mem_of_getElem? (i := 411) rfl), by decide +kernel⟩
theorem mw_412 : Cond.methodLink RX2 46 yX2_multiplyRestBy ∈ gx_TB := List.mem_filter.mpr ⟨List.mem_append_right _ (List.mem_of_getElem? (i := 412) (by decide +kernel)), by decide +kernel⟩
theorem mw_414 : Cond.instanceMethod yX2_multiplyRestBy ∈ gx_TB := List.mem_filter.mpr ⟨List.mem_append_right _ (List.mem_of_getElem? (i := 414) (by decide +kernel)), by decide +kernel⟩
set_option maxRecDepth 100000 in
theorem mw_415 : Cond.code yX2_multiplyRestBy cX2_multiplyRestBy 6 none ∈ gx_TB := List.mem_filter.mpr ⟨List.mem_append_right _ (List.mem_of_getElem? (i := 415) rfl), by decide +kernel⟩
theorem mw_416 : Cond.methodLink RX6 116 yX2_write ∈ gx_TB := List.mem_filter.mpr ⟨List.mem_append_right _ (List.mem_of_getElem? (i := 416) (by decide +kernel)), by decide +kernel⟩
theorem mw_417 : Cond.instanceMethod yX2_write ∈ gx_TB := List.mem_filter.mpr ⟨List.mem_append_right _ (List.mem_of_getElem? (i := 417) (by decide +kernel)), by decide +kernel⟩
theorem mw_418 : Cond.selects RX2 yX2_write yX2_write ∈ gx_TB := List.mem_filter.mpr ⟨List.mem_append_right _ (List.mem_of_getElem? (i := 418) (by decide +kernel)), by decide +kernel⟩
set_option maxRecDepth 100000 in
theorem mw_419 : Cond.code yX2_write cX2_write 3 none ∈ gx_TB := List.mem_filter.mpr ⟨List.mem_append_right _ (List.mem_of_getElem? (i := 419) rfl), by decide +kernel⟩
theorem mw_420 : Cond.methodLink RX2 36 yX0_clear ∈ gx_TB := List.mem_filter.mpr ⟨List.mem_append_right _ (List.mem_of_getElem? (i := 420) (by decide +kernel)), by decide +kernel⟩
theorem mw_421 : Cond.methodLink RX2 39 yX0_add ∈ gx_TB := List.mem_filter.mpr ⟨List.mem_append_right _ (List.mem_of_getElem? (i := 421) (by decide +kernel)), by decide +kernel⟩
theorem mw_426 : Cond.methodLink RX6 118 yX0_at ∈ gx_TB := List.mem_filter.mpr ⟨List.mem_append_right _ (List.mem_of_getElem? (i := 426) (by decide +kernel)), by decide +kernel⟩
theorem mw_439 : Cond.fieldLink RX9 7 "PlainSealModel$Text" "b" "[B" ∈ gx_TB := List.mem_filter.mpr ⟨List.mem_append_right _ (List.mem_of_getElem? (i := 439) (by decide +kernel)), by decide +kernel⟩
theorem mw_440 : Cond.fieldLink RX8 37 "PlainSealModel$Text" "b" "[B" ∈ gx_TB := List.mem_filter.mpr ⟨List.mem_append_right _ (List.mem_of_getElem? (i := 440) (by decide +kernel)), by decide +kernel⟩
theorem mw_441 : Cond.fieldLink RX10 163 "PlainSealModel$Text" "b" "[B" ∈ gx_TB := List.mem_filter.mpr ⟨List.mem_append_right _ (List.mem_of_getElem? (i := 441) (by decide +kernel)), by decide +kernel⟩
theorem mw_442 : Cond.fieldLink RX9 13 "PlainSealModel$Text" "n" "I" ∈ gx_TB := List.mem_filter.mpr ⟨List.mem_append_right _ (List.mem_of_getElem? (i := 442) (by decide +kernel)), by decide +kernel⟩
theorem mw_443 : Cond.fieldLink RX8 34 "PlainSealModel$Text" "n" "I" ∈ gx_TB := List.mem_filter.mpr ⟨List.mem_append_right _ (List.mem_of_getElem? (i := 443) (by decide +kernel)), by decide +kernel⟩
theorem mw_444 : Cond.fieldLink RX10 150 "PlainSealModel$Text" "n" "I" ∈ gx_TB := List.mem_filter.mpr ⟨List.mem_append_right _ (List.mem_of_getElem? (i := 444) (by decide +kernel)), by decide +kernel⟩
theorem mw_458 : Cond.fieldLink RX8 26 "PlainSealModel$Tags" "text" "LPlainSealModel$Text;" ∈ gx_TB := List.mem_filter.mpr ⟨List.mem_append_right _ (List.mem_of_getElem? (i := 458) (by decide +kernel)), by decide +kernel⟩
theorem mw_459 : Cond.fieldLink RX10 181 "PlainSealModel$Tags" "text" "LPlainSealModel$Text;" ∈ gx_TB := List.mem_filter.mpr ⟨List.mem_append_right _ (List.mem_of_getElem? (i := 459) (by decide +kernel)), by decide +kernel⟩
theorem mw_460 : Cond.fieldLink RX8 9 "PlainSealModel$Tags" "from" "[I" ∈ gx_TB := List.mem_filter.mpr ⟨List.mem_append_right _ (List.mem_of_getElem? (i := 460) (by decide +kernel)), by decide +kernel⟩
theorem mw_461 : Cond.fieldLink RX8 15 "PlainSealModel$Tags" "equals" "[I" ∈ gx_TB := List.mem_filter.mpr ⟨List.mem_append_right _ (List.mem_of_getElem? (i := 461) (by decide +kernel)), by decide +kernel⟩
theorem mw_462 : Cond.fieldLink RX10 194 "PlainSealModel$Tags" "equals" "[I" ∈ gx_TB := List.mem_filter.mpr ⟨List.mem_append_right _ (List.mem_of_getElem? (i := 462) (by decide +kernel)), by decide +kernel⟩
theorem mw_463 : Cond.fieldLink RX8 18 "PlainSealModel$Tags" "to" "[I" ∈ gx_TB := List.mem_filter.mpr ⟨List.mem_append_right _ (List.mem_of_getElem? (i := 463) (by decide +kernel)), by decide +kernel⟩
theorem mw_464 : Cond.fieldLink RX10 197 "PlainSealModel$Tags" "to" "[I" ∈ gx_TB := List.mem_filter.mpr ⟨List.mem_append_right _ (List.mem_of_getElem? (i := 464) (by decide +kernel)), by decide +kernel⟩
theorem mw_465 : Cond.fieldLink RX8 30 "PlainSealModel$Tags" "many" "I" ∈ gx_TB := List.mem_filter.mpr ⟨List.mem_append_right _ (List.mem_of_getElem? (i := 465) (by decide +kernel)), by decide +kernel⟩
theorem mw_466 : Cond.fieldLink RX10 187 "PlainSealModel$Tags" "many" "I" ∈ gx_TB := List.mem_filter.mpr ⟨List.mem_append_right _ (List.mem_of_getElem? (i := 466) (by decide +kernel)), by decide +kernel⟩
theorem mw_490 : Cond.constantLong RX7 34 (68719476736) ∈ gx_TB := List.mem_filter.mpr ⟨List.mem_append_right _ (List.mem_of_getElem? (i := 490) (by decide +kernel)), by decide +kernel⟩
theorem mw_491 : Cond.methodLink RX7 36 yX7_isAtMost ∈ gx_TB := List.mem_filter.mpr ⟨List.mem_append_right _ (List.mem_of_getElem? (i := 491) (by decide +kernel)), by decide +kernel⟩
theorem mw_492 : Cond.static yX7_isAtMost ∈ gx_TB := List.mem_filter.mpr ⟨List.mem_append_right _ (List.mem_of_getElem? (i := 492) (by decide +kernel)), by decide +kernel⟩
set_option maxRecDepth 100000 in
theorem mw_493 : Cond.code yX7_isAtMost cX7_isAtMost 28 (some .boolean) ∈ gx_TB := List.mem_filter.mpr ⟨List.mem_append_right _ (List.mem_of_getElem? (i := 493) rfl), by decide +kernel⟩
theorem mw_494 : Cond.methodLink RX7 40 yJ9_multiplyHigh_f86c9 ∈ gx_TB := List.mem_filter.mpr ⟨List.mem_append_right _ (List.mem_of_getElem? (i := 494) (by decide +kernel)), by decide +kernel⟩
theorem mw_495 : Cond.static yJ9_multiplyHigh_f86c9 ∈ gx_TB := List.mem_filter.mpr ⟨List.mem_append_right _ (List.mem_of_getElem? (i := 495) (by decide +kernel)), by decide +kernel⟩
set_option maxRecDepth 100000 in
theorem mw_496 : Cond.code yJ9_multiplyHigh_f86c9 cJ9_multiplyHigh_f86c9 20 (some .long) ∈ gx_TB := List.mem_filter.mpr ⟨List.mem_append_right _ (List.mem_of_getElem? (i := 496) rfl), by decide +kernel⟩
theorem mw_497 : Cond.constantLong RJ9 138 (4294967295) ∈ gx_TB := List.mem_filter.mpr ⟨List.mem_append_right _ (List.mem_of_getElem? (i := 497) (by decide +kernel)), by decide +kernel⟩
theorem mw_498 : Cond.constantLong RX7 46 (4294967295) ∈ gx_TB := List.mem_filter.mpr ⟨List.mem_append_right _ (List.mem_of_getElem? (i := 498) (by decide +kernel)), by decide +kernel⟩
theorem mw_499 : Cond.fieldLink RX7 9 "PlainSealModel$Hash" "first" "[I" ∈ gx_TB := List.mem_filter.mpr ⟨List.mem_append_right _ (List.mem_of_getElem? (i := 499) (by decide +kernel)), by decide +kernel⟩
theorem mw_500 : Cond.fieldLink RX7 13 "PlainSealModel$Hash" "h" "[I" ∈ gx_TB := List.mem_filter.mpr ⟨List.mem_append_right _ (List.mem_of_getElem? (i := 500) (by decide +kernel)), by decide +kernel⟩
theorem mw_501 : Cond.fieldLink RX7 16 "PlainSealModel$Hash" "w" "[I" ∈ gx_TB := List.mem_filter.mpr ⟨List.mem_append_right _ (List.mem_of_getElem? (i := 501) (by decide +kernel)), by decide +kernel⟩
theorem mw_502 : Cond.fieldLink RX7 19 "PlainSealModel$Hash" "k" "[I" ∈ gx_TB := List.mem_filter.mpr ⟨List.mem_append_right _ (List.mem_of_getElem? (i := 502) (by decide +kernel)), by decide +kernel⟩
theorem mw_503 : Cond.fieldLink RX7 22 "PlainSealModel$Hash" "block" "[B" ∈ gx_TB := List.mem_filter.mpr ⟨List.mem_append_right _ (List.mem_of_getElem? (i := 503) (by decide +kernel)), by decide +kernel⟩
theorem mw_504 : Cond.fieldLink RX7 54 "PlainSealModel$Hash" "many" "I" ∈ gx_TB := List.mem_filter.mpr ⟨List.mem_append_right _ (List.mem_of_getElem? (i := 504) (by decide +kernel)), by decide +kernel⟩
theorem mw_505 : Cond.fieldLink RX7 58 "PlainSealModel$Hash" "all" "J" ∈ gx_TB := List.mem_filter.mpr ⟨List.mem_append_right _ (List.mem_of_getElem? (i := 505) (by decide +kernel)), by decide +kernel⟩
theorem mw_521 : Cond.fieldLink RX10 13 "PlainSealModel" "tape" "[B" ∈ gx_TB := List.mem_filter.mpr ⟨List.mem_append_right _ (List.mem_of_getElem? (i := 521) (by decide +kernel)), by decide +kernel⟩
theorem mw_522 : Cond.fieldLink RX10 95 "PlainSealModel" "tapeMany" "I" ∈ gx_TB := List.mem_filter.mpr ⟨List.mem_append_right _ (List.mem_of_getElem? (i := 522) (by decide +kernel)), by decide +kernel⟩
theorem mw_523 : Cond.fieldLink RX10 166 "PlainSealModel" "outMany" "I" ∈ gx_TB := List.mem_filter.mpr ⟨List.mem_append_right _ (List.mem_of_getElem? (i := 523) (by decide +kernel)), by decide +kernel⟩
theorem mw_524 : Cond.fieldLink RX10 17 "PlainSealModel" "out" "[B" ∈ gx_TB := List.mem_filter.mpr ⟨List.mem_append_right _ (List.mem_of_getElem? (i := 524) (by decide +kernel)), by decide +kernel⟩
theorem mw_525 : Cond.fieldLink RX10 20 "PlainSealModel" "mail" "[B" ∈ gx_TB := List.mem_filter.mpr ⟨List.mem_append_right _ (List.mem_of_getElem? (i := 525) (by decide +kernel)), by decide +kernel⟩
theorem mw_526 : Cond.fieldLink RX10 23 "PlainSealModel" "begin" "[I" ∈ gx_TB := List.mem_filter.mpr ⟨List.mem_append_right _ (List.mem_of_getElem? (i := 526) (by decide +kernel)), by decide +kernel⟩
theorem mw_527 : Cond.fieldLink RX10 27 "PlainSealModel" "colon" "[I" ∈ gx_TB := List.mem_filter.mpr ⟨List.mem_append_right _ (List.mem_of_getElem? (i := 527) (by decide +kernel)), by decide +kernel⟩
theorem mw_528 : Cond.fieldLink RX10 30 "PlainSealModel" "stop" "[I" ∈ gx_TB := List.mem_filter.mpr ⟨List.mem_append_right _ (List.mem_of_getElem? (i := 528) (by decide +kernel)), by decide +kernel⟩
theorem mw_529 : Cond.fieldLink RX10 33 "PlainSealModel" "newBegin" "[I" ∈ gx_TB := List.mem_filter.mpr ⟨List.mem_append_right _ (List.mem_of_getElem? (i := 529) (by decide +kernel)), by decide +kernel⟩
theorem mw_530 : Cond.fieldLink RX10 36 "PlainSealModel" "newColon" "[I" ∈ gx_TB := List.mem_filter.mpr ⟨List.mem_append_right _ (List.mem_of_getElem? (i := 530) (by decide +kernel)), by decide +kernel⟩
theorem mw_531 : Cond.fieldLink RX10 39 "PlainSealModel" "newStop" "[I" ∈ gx_TB := List.mem_filter.mpr ⟨List.mem_append_right _ (List.mem_of_getElem? (i := 531) (by decide +kernel)), by decide +kernel⟩
theorem mw_532 : Cond.fieldLink RX10 131 "PlainSealModel" "fields" "I" ∈ gx_TB := List.mem_filter.mpr ⟨List.mem_append_right _ (List.mem_of_getElem? (i := 532) (by decide +kernel)), by decide +kernel⟩
theorem mw_533 : Cond.fieldLink RX10 140 "PlainSealModel" "body" "I" ∈ gx_TB := List.mem_filter.mpr ⟨List.mem_append_right _ (List.mem_of_getElem? (i := 533) (by decide +kernel)), by decide +kernel⟩
theorem mw_534 : Cond.fieldLink RX10 143 "PlainSealModel" "mailMany" "I" ∈ gx_TB := List.mem_filter.mpr ⟨List.mem_append_right _ (List.mem_of_getElem? (i := 534) (by decide +kernel)), by decide +kernel⟩
theorem mw_535 : Cond.fieldLink RX10 146 "PlainSealModel" "mailed" "Z" ∈ gx_TB := List.mem_filter.mpr ⟨List.mem_append_right _ (List.mem_of_getElem? (i := 535) (by decide +kernel)), by decide +kernel⟩
theorem mw_536 : Cond.fieldLink RX10 47 "PlainSealModel" "plain" "LPlainSealModel$Text;" ∈ gx_TB := List.mem_filter.mpr ⟨List.mem_append_right _ (List.mem_of_getElem? (i := 536) (by decide +kernel)), by decide +kernel⟩
theorem mw_537 : Cond.fieldLink RX10 54 "PlainSealModel" "told" "LPlainSealModel$Tags;" ∈ gx_TB := List.mem_filter.mpr ⟨List.mem_append_right _ (List.mem_of_getElem? (i := 537) (by decide +kernel)), by decide +kernel⟩
theorem mw_538 : Cond.fieldLink RX10 58 "PlainSealModel" "draft" "LPlainSealModel$Tags;" ∈ gx_TB := List.mem_filter.mpr ⟨List.mem_append_right _ (List.mem_of_getElem? (i := 538) (by decide +kernel)), by decide +kernel⟩
theorem mw_539 : Cond.fieldLink RX10 61 "PlainSealModel" "made" "[B" ∈ gx_TB := List.mem_filter.mpr ⟨List.mem_append_right _ (List.mem_of_getElem? (i := 539) (by decide +kernel)), by decide +kernel⟩
theorem mw_540 : Cond.fieldLink RX10 67 "PlainSealModel" "hash" "LPlainSealModel$Hash;" ∈ gx_TB := List.mem_filter.mpr ⟨List.mem_append_right _ (List.mem_of_getElem? (i := 540) (by decide +kernel)), by decide +kernel⟩
theorem mw_541 : Cond.fieldLink RX10 71 "PlainSealModel" "modulus" "[I" ∈ gx_TB := List.mem_filter.mpr ⟨List.mem_append_right _ (List.mem_of_getElem? (i := 541) (by decide +kernel)), by decide +kernel⟩
theorem mw_542 : Cond.fieldLink RX10 74 "PlainSealModel" "power" "[I" ∈ gx_TB := List.mem_filter.mpr ⟨List.mem_append_right _ (List.mem_of_getElem? (i := 542) (by decide +kernel)), by decide +kernel⟩
theorem mw_543 : Cond.fieldLink RX10 77 "PlainSealModel" "number" "[I" ∈ gx_TB := List.mem_filter.mpr ⟨List.mem_append_right _ (List.mem_of_getElem? (i := 543) (by decide +kernel)), by decide +kernel⟩
theorem mw_544 : Cond.fieldLink RX10 80 "PlainSealModel" "product" "[I" ∈ gx_TB := List.mem_filter.mpr ⟨List.mem_append_right _ (List.mem_of_getElem? (i := 544) (by decide +kernel)), by decide +kernel⟩
theorem mw_545 : Cond.fieldLink RX10 83 "PlainSealModel" "square" "[I" ∈ gx_TB := List.mem_filter.mpr ⟨List.mem_append_right _ (List.mem_of_getElem? (i := 545) (by decide +kernel)), by decide +kernel⟩
theorem mw_546 : Cond.fieldLink RX10 86 "PlainSealModel" "hashed" "[B" ∈ gx_TB := List.mem_filter.mpr ⟨List.mem_append_right _ (List.mem_of_getElem? (i := 546) (by decide +kernel)), by decide +kernel⟩
theorem mw_547 : Cond.fieldLink RX10 89 "PlainSealModel" "first" "[B" ∈ gx_TB := List.mem_filter.mpr ⟨List.mem_append_right _ (List.mem_of_getElem? (i := 547) (by decide +kernel)), by decide +kernel⟩
theorem mw_548 : Cond.fieldLink RX10 92 "PlainSealModel" "second" "[B" ∈ gx_TB := List.mem_filter.mpr ⟨List.mem_append_right _ (List.mem_of_getElem? (i := 548) (by decide +kernel)), by decide +kernel⟩
theorem mw_610 : Cond.methodLink RX10 99 yX10_four ∈ gx_TB := List.mem_filter.mpr ⟨List.mem_append_right _ (List.mem_of_getElem? (i := 610) (by decide +kernel)), by decide +kernel⟩
theorem mw_612 : Cond.instanceMethod yX10_four ∈ gx_TB := List.mem_filter.mpr ⟨List.mem_append_right _ (List.mem_of_getElem? (i := 612) (by decide +kernel)), by decide +kernel⟩
set_option maxRecDepth 100000 in
theorem mw_613 : Cond.code yX10_four cX10_four 3 none ∈ gx_TB := List.mem_filter.mpr ⟨List.mem_append_right _ (List.mem_of_getElem? (i := 613) rfl), by decide +kernel⟩
theorem mw_618 : Cond.methodLink RX10 102 yX10_in ∈ gx_TB := List.mem_filter.mpr ⟨List.mem_append_right _ (List.mem_of_getElem? (i := 618) (by decide +kernel)), by decide +kernel⟩
theorem mw_619 : Cond.static yX10_in ∈ gx_TB := List.mem_filter.mpr ⟨List.mem_append_right _ (List.mem_of_getElem? (i := 619) (by decide +kernel)), by decide +kernel⟩
set_option maxRecDepth 100000 in
theorem mw_620 : Cond.code yX10_in cX10_in 6 (some .boolean) ∈ gx_TB := List.mem_filter.mpr ⟨List.mem_append_right _ (List.mem_of_getElem? (i := 620) rfl), by decide +kernel⟩
theorem mw_625 : Cond.methodLink RX10 112 yX10_used ∈ gx_TB := List.mem_filter.mpr ⟨List.mem_append_right _ (List.mem_of_getElem? (i := 625) (by decide +kernel)), by decide +kernel⟩
theorem mw_627 : Cond.instanceMethod yX10_used ∈ gx_TB := List.mem_filter.mpr ⟨List.mem_append_right _ (List.mem_of_getElem? (i := 627) (by decide +kernel)), by decide +kernel⟩
set_option maxRecDepth 100000 in
theorem mw_628 : Cond.code yX10_used cX10_used 2 (some .int) ∈ gx_TB := List.mem_filter.mpr ⟨List.mem_append_right _ (List.mem_of_getElem? (i := 628) rfl), by decide +kernel⟩
theorem mw_629 : Cond.methodLink RX10 116 yX10_lineEnd ∈ gx_TB := List.mem_filter.mpr ⟨List.mem_append_right _ (List.mem_of_getElem? (i := 629) (by decide +kernel)), by decide +kernel⟩
theorem mw_630 : Cond.static yX10_lineEnd ∈ gx_TB := List.mem_filter.mpr ⟨List.mem_append_right _ (List.mem_of_getElem? (i := 630) (by decide +kernel)), by decide +kernel⟩
set_option maxRecDepth 100000 in
theorem mw_631 : Cond.code yX10_lineEnd cX10_lineEnd 4 (some .int) ∈ gx_TB := List.mem_filter.mpr ⟨List.mem_append_right _ (List.mem_of_getElem? (i := 631) rfl), by decide +kernel⟩
theorem mw_632 : Cond.methodLink RX10 106 Lib.Math.min.name ∈ gx_TB := List.mem_filter.mpr ⟨List.mem_append_right _ (List.mem_of_getElem? (i := 632) (by decide +kernel)), by decide +kernel⟩
theorem mw_633 : Cond.static Lib.Math.min.name ∈ gx_TB := List.mem_filter.mpr ⟨List.mem_append_right _ (List.mem_of_getElem? (i := 633) (by decide +kernel)), by decide +kernel⟩
set_option maxRecDepth 100000 in
theorem mw_634 : Cond.code Lib.Math.min.name Lib.Math.min.code 2 (some .int) ∈ gx_TB := List.mem_filter.mpr ⟨List.mem_append_right _ (List.mem_of_getElem? (i := 634) rfl), by decide +kernel⟩
theorem mw_635 : Cond.methodLink RX10 120 yX10_isWhite ∈ gx_TB := List.mem_filter.mpr ⟨List.mem_append_right _ (List.mem_of_getElem? (i := 635) (by decide +kernel)), by decide +kernel⟩
theorem mw_636 : Cond.static yX10_isWhite ∈ gx_TB := List.mem_filter.mpr ⟨List.mem_append_right _ (List.mem_of_getElem? (i := 636) (by decide +kernel)), by decide +kernel⟩
set_option maxRecDepth 100000 in
theorem mw_637 : Cond.code yX10_isWhite cX10_isWhite 1 (some .boolean) ∈ gx_TB := List.mem_filter.mpr ⟨List.mem_append_right _ (List.mem_of_getElem? (i := 637) rfl), by decide +kernel⟩
theorem mw_638 : Cond.methodLink RX10 123 yX10_isLetter ∈ gx_TB := List.mem_filter.mpr ⟨List.mem_append_right _ (List.mem_of_getElem? (i := 638) (by decide +kernel)), by decide +kernel⟩
theorem mw_639 : Cond.static yX10_isLetter ∈ gx_TB := List.mem_filter.mpr ⟨List.mem_append_right _ (List.mem_of_getElem? (i := 639) (by decide +kernel)), by decide +kernel⟩
set_option maxRecDepth 100000 in
theorem mw_640 : Cond.code yX10_isLetter cX10_isLetter 1 (some .boolean) ∈ gx_TB := List.mem_filter.mpr ⟨List.mem_append_right _ (List.mem_of_getElem? (i := 640) rfl), by decide +kernel⟩
theorem mw_641 : Cond.methodLink RX10 3 yX10_isSmall ∈ gx_TB := List.mem_filter.mpr ⟨List.mem_append_right _ (List.mem_of_getElem? (i := 641) (by decide +kernel)), by decide +kernel⟩
theorem mw_642 : Cond.static yX10_isSmall ∈ gx_TB := List.mem_filter.mpr ⟨List.mem_append_right _ (List.mem_of_getElem? (i := 642) (by decide +kernel)), by decide +kernel⟩
set_option maxRecDepth 100000 in
theorem mw_643 : Cond.code yX10_isSmall cX10_isSmall 1 (some .boolean) ∈ gx_TB := List.mem_filter.mpr ⟨List.mem_append_right _ (List.mem_of_getElem? (i := 643) rfl), by decide +kernel⟩
theorem mw_644 : Cond.methodLink RX10 126 yX10_isDigit ∈ gx_TB := List.mem_filter.mpr ⟨List.mem_append_right _ (List.mem_of_getElem? (i := 644) (by decide +kernel)), by decide +kernel⟩
theorem mw_645 : Cond.static yX10_isDigit ∈ gx_TB := List.mem_filter.mpr ⟨List.mem_append_right _ (List.mem_of_getElem? (i := 645) (by decide +kernel)), by decide +kernel⟩
set_option maxRecDepth 100000 in
theorem mw_646 : Cond.code yX10_isDigit cX10_isDigit 1 (some .boolean) ∈ gx_TB := List.mem_filter.mpr ⟨List.mem_append_right _ (List.mem_of_getElem? (i := 646) rfl), by decide +kernel⟩
theorem mw_647 : Cond.constantLong RX10 129 (20) ∈ gx_TB := List.mem_filter.mpr ⟨List.mem_append_right _ (List.mem_of_getElem? (i := 647) (by decide +kernel)), by decide +kernel⟩
theorem mw_648 : Cond.methodLink RX10 134 arraycopyName ∈ gx_TB := List.mem_filter.mpr ⟨List.mem_append_right _ (List.mem_of_getElem? (i := 648) (by decide +kernel)), by decide +kernel⟩
theorem mw_653 : Cond.methodLink RX10 169 yX10_bodyPlain ∈ gx_TB := List.mem_filter.mpr ⟨List.mem_append_right _ (List.mem_of_getElem? (i := 653) (by decide +kernel)), by decide +kernel⟩
theorem mw_655 : Cond.instanceMethod yX10_bodyPlain ∈ gx_TB := List.mem_filter.mpr ⟨List.mem_append_right _ (List.mem_of_getElem? (i := 655) (by decide +kernel)), by decide +kernel⟩
set_option maxRecDepth 100000 in
theorem mw_656 : Cond.code yX10_bodyPlain cX10_bodyPlain 9 none ∈ gx_TB := List.mem_filter.mpr ⟨List.mem_append_right _ (List.mem_of_getElem? (i := 656) rfl), by decide +kernel⟩
theorem mw_657 : Cond.methodLink RX10 153 yX9_add ∈ gx_TB := List.mem_filter.mpr ⟨List.mem_append_right _ (List.mem_of_getElem? (i := 657) (by decide +kernel)), by decide +kernel⟩
theorem mw_658 : Cond.instanceMethod yX9_add ∈ gx_TB := List.mem_filter.mpr ⟨List.mem_append_right _ (List.mem_of_getElem? (i := 658) (by decide +kernel)), by decide +kernel⟩
theorem mw_659 : Cond.selects RX9 yX9_add yX9_add ∈ gx_TB := List.mem_filter.mpr ⟨List.mem_append_right _ (List.mem_of_getElem? (i := 659) (by decide +kernel)), by decide +kernel⟩
set_option maxRecDepth 100000 in
theorem mw_660 : Cond.code yX9_add cX9_add 2 none ∈ gx_TB := List.mem_filter.mpr ⟨List.mem_append_right _ (List.mem_of_getElem? (i := 660) rfl), by decide +kernel⟩
theorem mw_661 : Cond.methodLink RX10 173 yX10_tell ∈ gx_TB := List.mem_filter.mpr ⟨List.mem_append_right _ (List.mem_of_getElem? (i := 661) (by decide +kernel)), by decide +kernel⟩
theorem mw_663 : Cond.instanceMethod yX10_tell ∈ gx_TB := List.mem_filter.mpr ⟨List.mem_append_right _ (List.mem_of_getElem? (i := 663) (by decide +kernel)), by decide +kernel⟩
set_option maxRecDepth 100000 in
theorem mw_664 : Cond.code yX10_tell cX10_tell 2 (some .int) ∈ gx_TB := List.mem_filter.mpr ⟨List.mem_append_right _ (List.mem_of_getElem? (i := 664) rfl), by decide +kernel⟩
theorem mw_669 : Cond.methodLink RX10 177 yX10_fieldPlain ∈ gx_TB := List.mem_filter.mpr ⟨List.mem_append_right _ (List.mem_of_getElem? (i := 669) (by decide +kernel)), by decide +kernel⟩
theorem mw_671 : Cond.instanceMethod yX10_fieldPlain ∈ gx_TB := List.mem_filter.mpr ⟨List.mem_append_right _ (List.mem_of_getElem? (i := 671) (by decide +kernel)), by decide +kernel⟩
set_option maxRecDepth 100000 in
theorem mw_672 : Cond.code yX10_fieldPlain cX10_fieldPlain 9 none ∈ gx_TB := List.mem_filter.mpr ⟨List.mem_append_right _ (List.mem_of_getElem? (i := 672) rfl), by decide +kernel⟩
theorem mw_673 : Cond.methodLink RX10 156 yX10_valueEnd ∈ gx_TB := List.mem_filter.mpr ⟨List.mem_append_right _ (List.mem_of_getElem? (i := 673) (by decide +kernel)), by decide +kernel⟩
theorem mw_675 : Cond.instanceMethod yX10_valueEnd ∈ gx_TB := List.mem_filter.mpr ⟨List.mem_append_right _ (List.mem_of_getElem? (i := 675) (by decide +kernel)), by decide +kernel⟩
set_option maxRecDepth 100000 in
theorem mw_676 : Cond.code yX10_valueEnd cX10_valueEnd 2 (some .int) ∈ gx_TB := List.mem_filter.mpr ⟨List.mem_append_right _ (List.mem_of_getElem? (i := 676) rfl), by decide +kernel⟩
theorem mw_677 : Cond.methodLink RX10 160 yX10_small ∈ gx_TB := List.mem_filter.mpr ⟨List.mem_append_right _ (List.mem_of_getElem? (i := 677) (by decide +kernel)), by decide +kernel⟩
theorem mw_678 : Cond.static yX10_small ∈ gx_TB := List.mem_filter.mpr ⟨List.mem_append_right _ (List.mem_of_getElem? (i := 678) (by decide +kernel)), by decide +kernel⟩
set_option maxRecDepth 100000 in
theorem mw_679 : Cond.code yX10_small cX10_small 1 (some .int) ∈ gx_TB := List.mem_filter.mpr ⟨List.mem_append_right _ (List.mem_of_getElem? (i := 679) rfl), by decide +kernel⟩
theorem mw_688 : Cond.methodLink RX10 184 yX8_read ∈ gx_TB := List.mem_filter.mpr ⟨List.mem_append_right _ (List.mem_of_getElem? (i := 688) (by decide +kernel)), by decide +kernel⟩
theorem mw_689 : Cond.instanceMethod yX8_read ∈ gx_TB := List.mem_filter.mpr ⟨List.mem_append_right _ (List.mem_of_getElem? (i := 689) (by decide +kernel)), by decide +kernel⟩
theorem mw_690 : Cond.selects RX8 yX8_read yX8_read ∈ gx_TB := List.mem_filter.mpr ⟨List.mem_append_right _ (List.mem_of_getElem? (i := 690) (by decide +kernel)), by decide +kernel⟩
set_option maxRecDepth 100000 in
theorem mw_691 : Cond.code yX8_read cX8_read 6 (some .boolean) ∈ gx_TB := List.mem_filter.mpr ⟨List.mem_append_right _ (List.mem_of_getElem? (i := 691) rfl), by decide +kernel⟩
theorem mw_694 : Cond.methodLink RX8 49 yX8_isSame ∈ gx_TB := List.mem_filter.mpr ⟨List.mem_append_right _ (List.mem_of_getElem? (i := 694) (by decide +kernel)), by decide +kernel⟩
theorem mw_696 : Cond.instanceMethod yX8_isSame ∈ gx_TB := List.mem_filter.mpr ⟨List.mem_append_right _ (List.mem_of_getElem? (i := 696) (by decide +kernel)), by decide +kernel⟩
set_option maxRecDepth 100000 in
theorem mw_697 : Cond.code yX8_isSame cX8_isSame 5 (some .boolean) ∈ gx_TB := List.mem_filter.mpr ⟨List.mem_append_right _ (List.mem_of_getElem? (i := 697) rfl), by decide +kernel⟩
theorem mw_702 : Cond.methodLink RX10 190 yX8_find ∈ gx_TB := List.mem_filter.mpr ⟨List.mem_append_right _ (List.mem_of_getElem? (i := 702) (by decide +kernel)), by decide +kernel⟩
theorem mw_703 : Cond.instanceMethod yX8_find ∈ gx_TB := List.mem_filter.mpr ⟨List.mem_append_right _ (List.mem_of_getElem? (i := 703) (by decide +kernel)), by decide +kernel⟩
theorem mw_704 : Cond.selects RX8 yX8_find yX8_find ∈ gx_TB := List.mem_filter.mpr ⟨List.mem_append_right _ (List.mem_of_getElem? (i := 704) (by decide +kernel)), by decide +kernel⟩
set_option maxRecDepth 100000 in
theorem mw_705 : Cond.code yX8_find cX8_find 6 (some .int) ∈ gx_TB := List.mem_filter.mpr ⟨List.mem_append_right _ (List.mem_of_getElem? (i := 705) rfl), by decide +kernel⟩
theorem mw_710 : Cond.constantLong RX10 200 (900) ∈ gx_TB := List.mem_filter.mpr ⟨List.mem_append_right _ (List.mem_of_getElem? (i := 710) (by decide +kernel)), by decide +kernel⟩
theorem mw_711 : Cond.methodLink RX10 202 yX10_digitOf ∈ gx_TB := List.mem_filter.mpr ⟨List.mem_append_right _ (List.mem_of_getElem? (i := 711) (by decide +kernel)), by decide +kernel⟩
theorem mw_712 : Cond.static yX10_digitOf ∈ gx_TB := List.mem_filter.mpr ⟨List.mem_append_right _ (List.mem_of_getElem? (i := 712) (by decide +kernel)), by decide +kernel⟩
set_option maxRecDepth 100000 in
theorem mw_713 : Cond.code yX10_digitOf cX10_digitOf 1 (some .int) ∈ gx_TB := List.mem_filter.mpr ⟨List.mem_append_right _ (List.mem_of_getElem? (i := 713) rfl), by decide +kernel⟩
theorem mw_718 : Cond.methodLink RX10 231 yX10_digest ∈ gx_TB := List.mem_filter.mpr ⟨List.mem_append_right _ (List.mem_of_getElem? (i := 718) (by decide +kernel)), by decide +kernel⟩
theorem mw_720 : Cond.instanceMethod yX10_digest ∈ gx_TB := List.mem_filter.mpr ⟨List.mem_append_right _ (List.mem_of_getElem? (i := 720) (by decide +kernel)), by decide +kernel⟩
set_option maxRecDepth 100000 in
theorem mw_721 : Cond.code yX10_digest cX10_digest 4 none ∈ gx_TB := List.mem_filter.mpr ⟨List.mem_append_right _ (List.mem_of_getElem? (i := 721) rfl), by decide +kernel⟩
theorem mw_722 : Cond.methodLink RX10 205 yX7_begin ∈ gx_TB := List.mem_filter.mpr ⟨List.mem_append_right _ (List.mem_of_getElem? (i := 722) (by decide +kernel)), by decide +kernel⟩
theorem mw_723 : Cond.instanceMethod yX7_begin ∈ gx_TB := List.mem_filter.mpr ⟨List.mem_append_right _ (List.mem_of_getElem? (i := 723) (by decide +kernel)), by decide +kernel⟩
theorem mw_724 : Cond.selects RX7 yX7_begin yX7_begin ∈ gx_TB := List.mem_filter.mpr ⟨List.mem_append_right _ (List.mem_of_getElem? (i := 724) (by decide +kernel)), by decide +kernel⟩
set_option maxRecDepth 100000 in
theorem mw_725 : Cond.code yX7_begin cX7_begin 1 none ∈ gx_TB := List.mem_filter.mpr ⟨List.mem_append_right _ (List.mem_of_getElem? (i := 725) rfl), by decide +kernel⟩
theorem mw_726 : Cond.methodLink RX7 48 arraycopyName ∈ gx_TB := List.mem_filter.mpr ⟨List.mem_append_right _ (List.mem_of_getElem? (i := 726) (by decide +kernel)), by decide +kernel⟩
theorem mw_727 : Cond.methodLink RX10 207 yX7_add ∈ gx_TB := List.mem_filter.mpr ⟨List.mem_append_right _ (List.mem_of_getElem? (i := 727) (by decide +kernel)), by decide +kernel⟩
theorem mw_728 : Cond.instanceMethod yX7_add ∈ gx_TB := List.mem_filter.mpr ⟨List.mem_append_right _ (List.mem_of_getElem? (i := 728) (by decide +kernel)), by decide +kernel⟩
theorem mw_729 : Cond.selects RX7 yX7_add yX7_add ∈ gx_TB := List.mem_filter.mpr ⟨List.mem_append_right _ (List.mem_of_getElem? (i := 729) (by decide +kernel)), by decide +kernel⟩
set_option maxRecDepth 100000 in
theorem mw_730 : Cond.code yX7_add cX7_add 5 none ∈ gx_TB := List.mem_filter.mpr ⟨List.mem_append_right _ (List.mem_of_getElem? (i := 730) rfl), by decide +kernel⟩
theorem mw_731 : Cond.methodLink RX7 65 yX7_one ∈ gx_TB := List.mem_filter.mpr ⟨List.mem_append_right _ (List.mem_of_getElem? (i := 731) (by decide +kernel)), by decide +kernel⟩
theorem mw_732 : Cond.instanceMethod yX7_one ∈ gx_TB := List.mem_filter.mpr ⟨List.mem_append_right _ (List.mem_of_getElem? (i := 732) (by decide +kernel)), by decide +kernel⟩
theorem mw_733 : Cond.selects RX7 yX7_one yX7_one ∈ gx_TB := List.mem_filter.mpr ⟨List.mem_append_right _ (List.mem_of_getElem? (i := 733) (by decide +kernel)), by decide +kernel⟩
set_option maxRecDepth 100000 in
theorem mw_734 : Cond.code yX7_one cX7_one 2 none ∈ gx_TB := List.mem_filter.mpr ⟨List.mem_append_right _ (List.mem_of_getElem? (i := 734) rfl), by decide +kernel⟩
theorem mw_735 : Cond.methodLink RX7 62 yX7_round ∈ gx_TB := List.mem_filter.mpr ⟨List.mem_append_right _ (List.mem_of_getElem? (i := 735) (by decide +kernel)), by decide +kernel⟩
theorem mw_737 : Cond.instanceMethod yX7_round ∈ gx_TB := List.mem_filter.mpr ⟨List.mem_append_right _ (List.mem_of_getElem? (i := 737) (by decide +kernel)), by decide +kernel⟩
set_option maxRecDepth 100000 in
theorem mw_738 : Cond.code yX7_round cX7_round 12 none ∈ gx_TB := List.mem_filter.mpr ⟨List.mem_append_right _ (List.mem_of_getElem? (i := 738) rfl), by decide +kernel⟩
theorem mw_739 : Cond.methodLink RX7 74 yJ6_rotateRight_7cf53 ∈ gx_TB := List.mem_filter.mpr ⟨List.mem_append_right _ (List.mem_of_getElem? (i := 739) (by decide +kernel)), by decide +kernel⟩
theorem mw_740 : Cond.static yJ6_rotateRight_7cf53 ∈ gx_TB := List.mem_filter.mpr ⟨List.mem_append_right _ (List.mem_of_getElem? (i := 740) (by decide +kernel)), by decide +kernel⟩
set_option maxRecDepth 100000 in
theorem mw_741 : Cond.code yJ6_rotateRight_7cf53 cJ6_rotateRight_7cf53 2 (some .int) ∈ gx_TB := List.mem_filter.mpr ⟨List.mem_append_right _ (List.mem_of_getElem? (i := 741) rfl), by decide +kernel⟩
theorem mw_742 : Cond.methodLink RX10 210 yX7_finish ∈ gx_TB := List.mem_filter.mpr ⟨List.mem_append_right _ (List.mem_of_getElem? (i := 742) (by decide +kernel)), by decide +kernel⟩
theorem mw_743 : Cond.instanceMethod yX7_finish ∈ gx_TB := List.mem_filter.mpr ⟨List.mem_append_right _ (List.mem_of_getElem? (i := 743) (by decide +kernel)), by decide +kernel⟩
theorem mw_744 : Cond.selects RX7 yX7_finish yX7_finish ∈ gx_TB := List.mem_filter.mpr ⟨List.mem_append_right _ (List.mem_of_getElem? (i := 744) (by decide +kernel)), by decide +kernel⟩
set_option maxRecDepth 100000 in
theorem mw_745 : Cond.code yX7_finish cX7_finish 6 none ∈ gx_TB := List.mem_filter.mpr ⟨List.mem_append_right _ (List.mem_of_getElem? (i := 745) rfl), by decide +kernel⟩
theorem mw_746 : Cond.constantLong RX7 69 (8) ∈ gx_TB := List.mem_filter.mpr ⟨List.mem_append_right _ (List.mem_of_getElem? (i := 746) (by decide +kernel)), by decide +kernel⟩
theorem mw_747 : Cond.methodLink RX7 71 yX7_four ∈ gx_TB := List.mem_filter.mpr ⟨List.mem_append_right _ (List.mem_of_getElem? (i := 747) (by decide +kernel)), by decide +kernel⟩
theorem mw_748 : Cond.instanceMethod yX7_four ∈ gx_TB := List.mem_filter.mpr ⟨List.mem_append_right _ (List.mem_of_getElem? (i := 748) (by decide +kernel)), by decide +kernel⟩
theorem mw_749 : Cond.selects RX7 yX7_four yX7_four ∈ gx_TB := List.mem_filter.mpr ⟨List.mem_append_right _ (List.mem_of_getElem? (i := 749) (by decide +kernel)), by decide +kernel⟩
set_option maxRecDepth 100000 in
theorem mw_750 : Cond.code yX7_four cX7_four 3 none ∈ gx_TB := List.mem_filter.mpr ⟨List.mem_append_right _ (List.mem_of_getElem? (i := 750) rfl), by decide +kernel⟩
theorem mw_755 : Cond.methodLink RX10 235 yX10_digits ∈ gx_TB := List.mem_filter.mpr ⟨List.mem_append_right _ (List.mem_of_getElem? (i := 755) (by decide +kernel)), by decide +kernel⟩
theorem mw_756 : Cond.static yX10_digits ∈ gx_TB := List.mem_filter.mpr ⟨List.mem_append_right _ (List.mem_of_getElem? (i := 756) (by decide +kernel)), by decide +kernel⟩
set_option maxRecDepth 100000 in
theorem mw_757 : Cond.code yX10_digits cX10_digits 3 none ∈ gx_TB := List.mem_filter.mpr ⟨List.mem_append_right _ (List.mem_of_getElem? (i := 757) rfl), by decide +kernel⟩
theorem mw_758 : Cond.methodLink RX10 214 yJ7_fill_53178 ∈ gx_TB := List.mem_filter.mpr ⟨List.mem_append_right _ (List.mem_of_getElem? (i := 758) (by decide +kernel)), by decide +kernel⟩
theorem mw_759 : Cond.static yJ7_fill_53178 ∈ gx_TB := List.mem_filter.mpr ⟨List.mem_append_right _ (List.mem_of_getElem? (i := 759) (by decide +kernel)), by decide +kernel⟩
set_option maxRecDepth 100000 in
theorem mw_760 : Cond.code yJ7_fill_53178 cJ7_fill_53178 4 none ∈ gx_TB := List.mem_filter.mpr ⟨List.mem_append_right _ (List.mem_of_getElem? (i := 760) rfl), by decide +kernel⟩
theorem mw_761 : Cond.methodLink RX10 227 yX10_remainder ∈ gx_TB := List.mem_filter.mpr ⟨List.mem_append_right _ (List.mem_of_getElem? (i := 761) (by decide +kernel)), by decide +kernel⟩
theorem mw_763 : Cond.instanceMethod yX10_remainder ∈ gx_TB := List.mem_filter.mpr ⟨List.mem_append_right _ (List.mem_of_getElem? (i := 763) (by decide +kernel)), by decide +kernel⟩
set_option maxRecDepth 100000 in
theorem mw_764 : Cond.code yX10_remainder cX10_remainder 9 none ∈ gx_TB := List.mem_filter.mpr ⟨List.mem_append_right _ (List.mem_of_getElem? (i := 764) rfl), by decide +kernel⟩
theorem mw_765 : Cond.constant RX10 220 (65535) ∈ gx_TB := List.mem_filter.mpr ⟨List.mem_append_right _ (List.mem_of_getElem? (i := 765) (by decide +kernel)), by decide +kernel⟩
theorem mw_766 : Cond.methodLink RX10 221 yX10_isBelow ∈ gx_TB := List.mem_filter.mpr ⟨List.mem_append_right _ (List.mem_of_getElem? (i := 766) (by decide +kernel)), by decide +kernel⟩
theorem mw_767 : Cond.static yX10_isBelow ∈ gx_TB := List.mem_filter.mpr ⟨List.mem_append_right _ (List.mem_of_getElem? (i := 767) (by decide +kernel)), by decide +kernel⟩
set_option maxRecDepth 100000 in
theorem mw_768 : Cond.code yX10_isBelow cX10_isBelow 3 (some .boolean) ∈ gx_TB := List.mem_filter.mpr ⟨List.mem_append_right _ (List.mem_of_getElem? (i := 768) rfl), by decide +kernel⟩
theorem mw_769 : Cond.methodLink RX10 239 yX10_times ∈ gx_TB := List.mem_filter.mpr ⟨List.mem_append_right _ (List.mem_of_getElem? (i := 769) (by decide +kernel)), by decide +kernel⟩
theorem mw_771 : Cond.instanceMethod yX10_times ∈ gx_TB := List.mem_filter.mpr ⟨List.mem_append_right _ (List.mem_of_getElem? (i := 771) (by decide +kernel)), by decide +kernel⟩
set_option maxRecDepth 100000 in
theorem mw_772 : Cond.code yX10_times cX10_times 6 none ∈ gx_TB := List.mem_filter.mpr ⟨List.mem_append_right _ (List.mem_of_getElem? (i := 772) rfl), by decide +kernel⟩
theorem mw_773 : Cond.constantLong RX10 225 (65535) ∈ gx_TB := List.mem_filter.mpr ⟨List.mem_append_right _ (List.mem_of_getElem? (i := 773) (by decide +kernel)), by decide +kernel⟩
theorem mw_778 : Cond.constantLong RX10 243 (-1) ∈ gx_TB := List.mem_filter.mpr ⟨List.mem_append_right _ (List.mem_of_getElem? (i := 778) (by decide +kernel)), by decide +kernel⟩
end
section
/-! BYTES AS NUMBERS: c below 256 is a byte, 999 is 'none there' (at answers -2) -/
def b2 (b : Bool) : Int32 := if b then 1 else 0
theorem b2_ok (b : Bool) : narrow .boolean (.int (b2 b)) = .int (b2 b) := by cases b <;> rfl
theorem b2_0 (b : Bool) : b2 b = 0 ↔ b = false := by cases b <;> decide
theorem b2_1 (b : Bool) : b2 b = 1 ↔ b = true := by cases b <;> decide
def cI (c : Nat) : Int32 := if c < 256 then nI c else -2
theorem cI_lo {c : Nat} (h : c < 256) : cI c = nI c := if_pos h
theorem cI_hi {c : Nat} (h : 256 ≤ c) : cI c = -2 := if_neg (by omega)
theorem nI_neg2 {k : Nat} (h : k < 2 ^ 31) : ¬ (-2 : Int32) = nI k := by
  intro e
  have h1 := congrArg Int32.toInt e
  rw [nI_toInt h] at h1
  have : (-2 : Int32).toInt = -2 := by decide
  omega
theorem nI_neg2_lt {k : Nat} (h : k < 2 ^ 31) : (-2 : Int32) < nI k := by
  rw [Int32.lt_iff_toInt_lt, nI_toInt h]
  have : (-2 : Int32).toInt = -2 := by decide
  omega
theorem nI_neg2_nlt {k : Nat} (h : k < 2 ^ 31) : ¬ nI k < (-2 : Int32) := by
  rw [Int32.lt_iff_toInt_lt, nI_toInt h]
  have : (-2 : Int32).toInt = -2 := by decide
  omega
theorem cI_eq {c k : Nat} (hk : k < 256) : cI c = nI k ↔ c = k := by
  by_cases h : c < 256
  · rw [cI_lo h, nI_eq (by omega) (by omega)]
  · rw [cI_hi (by omega)]
    constructor
    · intro e; exact absurd e (nI_neg2 (by omega))
    · intro e; omega
theorem cI_lt {c k : Nat} (hk : k ≤ 256) : cI c < nI k ↔ (c < k ∨ 256 ≤ c) := by
  by_cases h : c < 256
  · rw [cI_lo h, nI_ltI (by omega) (by omega)]; omega
  · rw [cI_hi (by omega)]
    constructor
    · intro _; omega
    · intro _; exact nI_neg2_lt (by omega)
theorem cI_gt {c k : Nat} (hk : k ≤ 256) : nI k < cI c ↔ (k < c ∧ c < 256) := by
  by_cases h : c < 256
  · rw [cI_lo h, nI_ltI (by omega) (by omega)]; omega
  · rw [cI_hi (by omega)]
    constructor
    · intro e; exact absurd e (nI_neg2_nlt (by omega))
    · intro _; omega
def isW (c : Nat) : Bool := c == 32 || c == 9
def isS (c : Nat) : Bool := decide (97 ≤ c) && decide (c ≤ 122)
def isG (c : Nat) : Bool := decide (65 ≤ c) && decide (c ≤ 90)
def isD (c : Nat) : Bool := decide (48 ≤ c) && decide (c ≤ 57)
def sml (c : Nat) : Nat := if isG c then c + 32 else c
/-- a row of bytes as a list; its byte j, or 999 -/
def ch (L : List Nat) (j : Nat) : Nat := L.getD j 999
def okL (L : List Nat) : Prop := ∀ c ∈ L, c < 256
theorem ch_lt {L : List Nat} (h : okL L) {j : Nat} (hj : j < L.length) : ch L j < 256 := by
  unfold ch
  rw [List.getD_eq_getElem?_getD, List.getElem?_eq_getElem hj]
  exact h _ (List.getElem_mem hj)
theorem ch_ge {L : List Nat} {j : Nat} (hj : L.length ≤ j) : ch L j = 999 := by
  unfold ch
  rw [List.getD_eq_getElem?_getD, List.getElem?_eq_none hj]
  rfl
/-- the array a holds the bytes L from its beginning -/
def rdb (L : List Nat) (a : Nat → Int32) : Prop := okL L ∧ ∀ j, j < L.length → a j = sb_b (ch L j)
theorem sb_nI {c : Nat} (h : c < 256) : sb_b c &&& 255 = nI c := (sb_byte c h).1
theorem rdb_nil (a : Nat → Int32) : rdb [] a := ⟨fun c h => absurd h List.not_mem_nil, fun j h => absurd h (Nat.not_lt_zero j)⟩
theorem rdb_at {L : List Nat} {a : Nat → Int32} (h : rdb L a) {j : Nat} (hj : j < L.length) : a j &&& 255 = nI (ch L j) := by
  rw [h.2 j hj]
  exact sb_nI (ch_lt h.1 hj)
theorem ch_app_lo {L M : List Nat} {j : Nat} (h : j < L.length) : ch (L ++ M) j = ch L j := by
  unfold ch
  rw [List.getD_eq_getElem?_getD, List.getD_eq_getElem?_getD, List.getElem?_append_left h]
theorem ch_app_hi {L M : List Nat} {j : Nat} (h : L.length ≤ j) : ch (L ++ M) j = ch M (j - L.length) := by
  unfold ch
  rw [List.getD_eq_getElem?_getD, List.getD_eq_getElem?_getD, List.getElem?_append_right h]
theorem okL_app {L M : List Nat} (h : okL L) (h2 : okL M) : okL (L ++ M) := fun c hc => (List.mem_append.mp hc).elim (h c) (h2 c)
theorem rdb_push {L : List Nat} {a : Nat → Int32} (h : rdb L a) {c : Nat} (hc : c < 256) {x : Int32} (hx : x = sb_b c) : rdb (L ++ [c]) (upd a L.length x) := by
  refine ⟨okL_app h.1 (fun d hd => by rw [List.mem_singleton.mp hd]; exact hc), fun j hj => ?_⟩
  rw [List.length_append, List.length_singleton] at hj
  by_cases e : j = L.length
  · subst e
    rw [pk_us, hx, ch_app_hi (Nat.le_refl _), Nat.sub_self]
    rfl
  · rw [pk_un e, ch_app_lo (by omega)]
    exact h.2 j (by omega)
theorem rdb_take {L : List Nat} {a : Nat → Int32} (h : rdb L a) (n : Nat) : rdb (L.take n) a := by
  refine ⟨fun c hc => h.1 c (List.mem_of_mem_take hc), fun j hj => ?_⟩
  rw [List.length_take] at hj
  rw [h.2 j (by omega)]
  unfold ch
  rw [List.getD_eq_getElem?_getD, List.getD_eq_getElem?_getD, List.getElem?_take, if_pos (by omega)]
/-- what is left of an int in a byte, by the int's lowest eight bits -/
theorem byte_of (x : Int32) : x.toInt8.toInt32 = sb_b (x.toBitVec.toNat % 256) := by
  unfold sb_b
  congr 1
  apply Int8.toBitVec_inj.mp
  apply BitVec.eq_of_toNat_eq
  show (x.toBitVec.signExtend 8).toNat = ((nI (x.toBitVec.toNat % 256)).toBitVec.signExtend 8).toNat
  rw [BitVec.signExtend_eq_setWidth_of_le _ (by omega), BitVec.signExtend_eq_setWidth_of_le _ (by omega), BitVec.toNat_setWidth, BitVec.toNat_setWidth, pk_tn (by omega)]
  omega
theorem byte_nI {c : Nat} (h : c < 2 ^ 32) : (nI c).toInt8.toInt32 = sb_b (c % 256) := by
  rw [byte_of, pk_tn h]
theorem byte_sb {c : Nat} (h : c < 256) : (sb_b c).toInt8.toInt32 = sb_b c := by
  have h2 : ∀ c, c < 256 → (sb_b c).toInt8.toInt32 = sb_b c := by decide +kernel
  exact h2 c h
end
section
-- PlainSeal.isWhite(I)Z
theorem dX6_isWhite_0 : decode cX6_isWhite 0 = .ok (.iload_n 0, 1) := by decide +kernel
theorem dX6_isWhite_1 : decode cX6_isWhite 1 = .ok (.bipush 32, 2) := by decide +kernel
theorem dX6_isWhite_3 : decode cX6_isWhite 3 = .ok (.if_icmp .eq 9, 3) := by decide +kernel
theorem dX6_isWhite_6 : decode cX6_isWhite 6 = .ok (.iload_n 0, 1) := by decide +kernel
theorem dX6_isWhite_7 : decode cX6_isWhite 7 = .ok (.bipush 9, 2) := by decide +kernel
theorem dX6_isWhite_9 : decode cX6_isWhite 9 = .ok (.if_icmp .ne 7, 3) := by decide +kernel
theorem dX6_isWhite_12 : decode cX6_isWhite 12 = .ok (.iconst 1, 1) := by decide +kernel
theorem dX6_isWhite_13 : decode cX6_isWhite 13 = .ok (.goto 4, 3) := by decide +kernel
theorem dX6_isWhite_16 : decode cX6_isWhite 16 = .ok (.iconst 0, 1) := by decide +kernel
theorem dX6_isWhite_17 : decode cX6_isWhite 17 = .ok (.ireturn, 1) := by decide +kernel
theorem hyX6_isWhite : yX6_isWhite.cls ≠ "java/lang/invoke/MethodHandle" ∧ yX6_isWhite.cls ≠ "java/lang/invoke/VarHandle" ∧ (parseMethodDescriptor yX6_isWhite.desc).map (fun d => d.parameters.length) = some 1 := by decide +kernel
def S_X6_isWhite (u : gx_S) (v0 : Int32) (post : Int32 → gx_S → Prop) : Prop := ((v0 = (32 : Int32) → post (1 : Int32) u) ∧ (¬ v0 = (32 : Int32) → ((¬ v0 = (9 : Int32) → post (0 : Int32) u) ∧ (v0 = (9 : Int32) → post (1 : Int32) u))))
set_option maxHeartbeats 4000000 in
set_option maxRecDepth 100000 in
theorem w_X6_isWhite {E : gx_E} (X : gx_X E cX6_isWhite 1 RX6 (some .boolean)) (hd : 0 ≤ ex_d E) {post : Int32 → gx_S → Prop} (hQ : ex_Q E = va_Qi post (gx_B (ex_Z E)) (gx_A (ex_Z E))) {u : gx_S} {v0 : Int32} (h : S_X6_isWhite u v0 post) : gx_Wc E 1 0 [(0, .int v0)] [] u := by
  unfold S_X6_isWhite at h
  refine gx_iload_n X (j := 0) dX6_isWhite_0 rfl rfl ?_
  refine gx_bipush X (v := 32) dX6_isWhite_1 (by decide) ?_
  refine gx_icmp_eq X (tgt := 12) dX6_isWhite_3 (by decide) (fun c2 => ?_) (fun c2 => ?_)
  · replace h := h.1 c2
    refine gx_iconst X (v := 1) dX6_isWhite_12 (by decide) ?_
    refine gx_goto X (tgt := 17) dX6_isWhite_13 (by decide) ?_
    exact gx_zret X hQ rfl h dX6_isWhite_17
  · replace h := h.2 c2
    refine gx_iload_n X (j := 0) dX6_isWhite_6 rfl rfl ?_
    refine gx_bipush X (v := 9) dX6_isWhite_7 (by decide) ?_
    refine gx_icmp_ne X (tgt := 16) dX6_isWhite_9 (by decide) (fun c1 => ?_) (fun c1 => ?_)
    · replace h := h.1 c1
      refine gx_iconst X (v := 0) dX6_isWhite_16 (by decide) ?_
      exact gx_zret X hQ rfl h dX6_isWhite_17
    · replace h := h.2 c1
      refine gx_iconst X (v := 1) dX6_isWhite_12 (by decide) ?_
      refine gx_goto X (tgt := 17) dX6_isWhite_13 (by decide) ?_
      exact gx_zret X hQ rfl h dX6_isWhite_17
theorem c_X6_isWhite {l : Launch} {Z : gx_Z} {u : gx_S} {v0 : Int32} {post : Int32 → gx_S → Prop} (h : S_X6_isWhite u v0 post) : Met l yX6_isWhite (Cond.code yX6_isWhite cX6_isWhite 1 (some .boolean) :: gx_TB) (gx_rm 0) (gx_Pre Z u [.int v0]) (va_Qi post (gx_B Z) (gx_A Z)) 0 0 (gx_A Z) := by
  refine gx_met (by decide +kernel) (Nat.le_of_ble_eq_true rfl) ?_
  intro E X hZ hQ hD hL
  subst hZ
  exact w_X6_isWhite X (Nat.le_of_eq hD.symm) hQ h
-- PlainSeal.isSmallLetter(I)Z
theorem dX6_isSmallLetter_0 : decode cX6_isSmallLetter 0 = .ok (.iload_n 0, 1) := by decide +kernel
theorem dX6_isSmallLetter_1 : decode cX6_isSmallLetter 1 = .ok (.bipush 97, 2) := by decide +kernel
theorem dX6_isSmallLetter_3 : decode cX6_isSmallLetter 3 = .ok (.if_icmp .lt 13, 3) := by decide +kernel
theorem dX6_isSmallLetter_6 : decode cX6_isSmallLetter 6 = .ok (.iload_n 0, 1) := by decide +kernel
theorem dX6_isSmallLetter_7 : decode cX6_isSmallLetter 7 = .ok (.bipush 122, 2) := by decide +kernel
theorem dX6_isSmallLetter_9 : decode cX6_isSmallLetter 9 = .ok (.if_icmp .gt 7, 3) := by decide +kernel
theorem dX6_isSmallLetter_12 : decode cX6_isSmallLetter 12 = .ok (.iconst 1, 1) := by decide +kernel
theorem dX6_isSmallLetter_13 : decode cX6_isSmallLetter 13 = .ok (.goto 4, 3) := by decide +kernel
theorem dX6_isSmallLetter_16 : decode cX6_isSmallLetter 16 = .ok (.iconst 0, 1) := by decide +kernel
theorem dX6_isSmallLetter_17 : decode cX6_isSmallLetter 17 = .ok (.ireturn, 1) := by decide +kernel
theorem hyX6_isSmallLetter : yX6_isSmallLetter.cls ≠ "java/lang/invoke/MethodHandle" ∧ yX6_isSmallLetter.cls ≠ "java/lang/invoke/VarHandle" ∧ (parseMethodDescriptor yX6_isSmallLetter.desc).map (fun d => d.parameters.length) = some 1 := by decide +kernel
def S_X6_isSmallLetter (u : gx_S) (v0 : Int32) (post : Int32 → gx_S → Prop) : Prop := ((v0 < (97 : Int32) → post (0 : Int32) u) ∧ (¬ v0 < (97 : Int32) → (((122 : Int32) < v0 → post (0 : Int32) u) ∧ (¬ (122 : Int32) < v0 → post (1 : Int32) u))))
set_option maxHeartbeats 4000000 in
set_option maxRecDepth 100000 in
theorem w_X6_isSmallLetter {E : gx_E} (X : gx_X E cX6_isSmallLetter 1 RX6 (some .boolean)) (hd : 0 ≤ ex_d E) {post : Int32 → gx_S → Prop} (hQ : ex_Q E = va_Qi post (gx_B (ex_Z E)) (gx_A (ex_Z E))) {u : gx_S} {v0 : Int32} (h : S_X6_isSmallLetter u v0 post) : gx_Wc E 1 0 [(0, .int v0)] [] u := by
  unfold S_X6_isSmallLetter at h
  refine gx_iload_n X (j := 0) dX6_isSmallLetter_0 rfl rfl ?_
  refine gx_bipush X (v := 97) dX6_isSmallLetter_1 (by decide) ?_
  refine gx_icmp_lt X (tgt := 16) dX6_isSmallLetter_3 (by decide) (fun c2 => ?_) (fun c2 => ?_)
  · replace h := h.1 c2
    refine gx_iconst X (v := 0) dX6_isSmallLetter_16 (by decide) ?_
    exact gx_zret X hQ rfl h dX6_isSmallLetter_17
  · replace h := h.2 c2
    refine gx_iload_n X (j := 0) dX6_isSmallLetter_6 rfl rfl ?_
    refine gx_bipush X (v := 122) dX6_isSmallLetter_7 (by decide) ?_
    refine gx_icmp_gt X (tgt := 16) dX6_isSmallLetter_9 (by decide) (fun c1 => ?_) (fun c1 => ?_)
    · replace h := h.1 c1
      refine gx_iconst X (v := 0) dX6_isSmallLetter_16 (by decide) ?_
      exact gx_zret X hQ rfl h dX6_isSmallLetter_17
    · replace h := h.2 c1
      refine gx_iconst X (v := 1) dX6_isSmallLetter_12 (by decide) ?_
      refine gx_goto X (tgt := 17) dX6_isSmallLetter_13 (by decide) ?_
      exact gx_zret X hQ rfl h dX6_isSmallLetter_17
theorem c_X6_isSmallLetter {l : Launch} {Z : gx_Z} {u : gx_S} {v0 : Int32} {post : Int32 → gx_S → Prop} (h : S_X6_isSmallLetter u v0 post) : Met l yX6_isSmallLetter (Cond.code yX6_isSmallLetter cX6_isSmallLetter 1 (some .boolean) :: gx_TB) (gx_rm 0) (gx_Pre Z u [.int v0]) (va_Qi post (gx_B Z) (gx_A Z)) 0 0 (gx_A Z) := by
  refine gx_met (by decide +kernel) (Nat.le_of_ble_eq_true rfl) ?_
  intro E X hZ hQ hD hL
  subst hZ
  exact w_X6_isSmallLetter X (Nat.le_of_eq hD.symm) hQ h
-- PlainSeal.isGreatLetter(I)Z
theorem dX6_isGreatLetter_0 : decode cX6_isGreatLetter 0 = .ok (.iload_n 0, 1) := by decide +kernel
theorem dX6_isGreatLetter_1 : decode cX6_isGreatLetter 1 = .ok (.bipush 65, 2) := by decide +kernel
theorem dX6_isGreatLetter_3 : decode cX6_isGreatLetter 3 = .ok (.if_icmp .lt 13, 3) := by decide +kernel
theorem dX6_isGreatLetter_6 : decode cX6_isGreatLetter 6 = .ok (.iload_n 0, 1) := by decide +kernel
theorem dX6_isGreatLetter_7 : decode cX6_isGreatLetter 7 = .ok (.bipush 90, 2) := by decide +kernel
theorem dX6_isGreatLetter_9 : decode cX6_isGreatLetter 9 = .ok (.if_icmp .gt 7, 3) := by decide +kernel
theorem dX6_isGreatLetter_12 : decode cX6_isGreatLetter 12 = .ok (.iconst 1, 1) := by decide +kernel
theorem dX6_isGreatLetter_13 : decode cX6_isGreatLetter 13 = .ok (.goto 4, 3) := by decide +kernel
theorem dX6_isGreatLetter_16 : decode cX6_isGreatLetter 16 = .ok (.iconst 0, 1) := by decide +kernel
theorem dX6_isGreatLetter_17 : decode cX6_isGreatLetter 17 = .ok (.ireturn, 1) := by decide +kernel
theorem hyX6_isGreatLetter : yX6_isGreatLetter.cls ≠ "java/lang/invoke/MethodHandle" ∧ yX6_isGreatLetter.cls ≠ "java/lang/invoke/VarHandle" ∧ (parseMethodDescriptor yX6_isGreatLetter.desc).map (fun d => d.parameters.length) = some 1 := by decide +kernel
def S_X6_isGreatLetter (u : gx_S) (v0 : Int32) (post : Int32 → gx_S → Prop) : Prop := ((v0 < (65 : Int32) → post (0 : Int32) u) ∧ (¬ v0 < (65 : Int32) → (((90 : Int32) < v0 → post (0 : Int32) u) ∧ (¬ (90 : Int32) < v0 → post (1 : Int32) u))))
set_option maxHeartbeats 4000000 in
set_option maxRecDepth 100000 in
theorem w_X6_isGreatLetter {E : gx_E} (X : gx_X E cX6_isGreatLetter 1 RX6 (some .boolean)) (hd : 0 ≤ ex_d E) {post : Int32 → gx_S → Prop} (hQ : ex_Q E = va_Qi post (gx_B (ex_Z E)) (gx_A (ex_Z E))) {u : gx_S} {v0 : Int32} (h : S_X6_isGreatLetter u v0 post) : gx_Wc E 1 0 [(0, .int v0)] [] u := by
  unfold S_X6_isGreatLetter at h
  refine gx_iload_n X (j := 0) dX6_isGreatLetter_0 rfl rfl ?_
  refine gx_bipush X (v := 65) dX6_isGreatLetter_1 (by decide) ?_
  refine gx_icmp_lt X (tgt := 16) dX6_isGreatLetter_3 (by decide) (fun c2 => ?_) (fun c2 => ?_)
  · replace h := h.1 c2
    refine gx_iconst X (v := 0) dX6_isGreatLetter_16 (by decide) ?_
    exact gx_zret X hQ rfl h dX6_isGreatLetter_17
  · replace h := h.2 c2
    refine gx_iload_n X (j := 0) dX6_isGreatLetter_6 rfl rfl ?_
    refine gx_bipush X (v := 90) dX6_isGreatLetter_7 (by decide) ?_
    refine gx_icmp_gt X (tgt := 16) dX6_isGreatLetter_9 (by decide) (fun c1 => ?_) (fun c1 => ?_)
    · replace h := h.1 c1
      refine gx_iconst X (v := 0) dX6_isGreatLetter_16 (by decide) ?_
      exact gx_zret X hQ rfl h dX6_isGreatLetter_17
    · replace h := h.2 c1
      refine gx_iconst X (v := 1) dX6_isGreatLetter_12 (by decide) ?_
      refine gx_goto X (tgt := 17) dX6_isGreatLetter_13 (by decide) ?_
      exact gx_zret X hQ rfl h dX6_isGreatLetter_17
theorem c_X6_isGreatLetter {l : Launch} {Z : gx_Z} {u : gx_S} {v0 : Int32} {post : Int32 → gx_S → Prop} (h : S_X6_isGreatLetter u v0 post) : Met l yX6_isGreatLetter (Cond.code yX6_isGreatLetter cX6_isGreatLetter 1 (some .boolean) :: gx_TB) (gx_rm 0) (gx_Pre Z u [.int v0]) (va_Qi post (gx_B Z) (gx_A Z)) 0 0 (gx_A Z) := by
  refine gx_met (by decide +kernel) (Nat.le_of_ble_eq_true rfl) ?_
  intro E X hZ hQ hD hL
  subst hZ
  exact w_X6_isGreatLetter X (Nat.le_of_eq hD.symm) hQ h
-- PlainSeal.isDigit(I)Z
theorem dX6_isDigit_0 : decode cX6_isDigit 0 = .ok (.iload_n 0, 1) := by decide +kernel
theorem dX6_isDigit_1 : decode cX6_isDigit 1 = .ok (.bipush 48, 2) := by decide +kernel
theorem dX6_isDigit_3 : decode cX6_isDigit 3 = .ok (.if_icmp .lt 13, 3) := by decide +kernel
theorem dX6_isDigit_6 : decode cX6_isDigit 6 = .ok (.iload_n 0, 1) := by decide +kernel
theorem dX6_isDigit_7 : decode cX6_isDigit 7 = .ok (.bipush 57, 2) := by decide +kernel
theorem dX6_isDigit_9 : decode cX6_isDigit 9 = .ok (.if_icmp .gt 7, 3) := by decide +kernel
theorem dX6_isDigit_12 : decode cX6_isDigit 12 = .ok (.iconst 1, 1) := by decide +kernel
theorem dX6_isDigit_13 : decode cX6_isDigit 13 = .ok (.goto 4, 3) := by decide +kernel
theorem dX6_isDigit_16 : decode cX6_isDigit 16 = .ok (.iconst 0, 1) := by decide +kernel
theorem dX6_isDigit_17 : decode cX6_isDigit 17 = .ok (.ireturn, 1) := by decide +kernel
theorem hyX6_isDigit : yX6_isDigit.cls ≠ "java/lang/invoke/MethodHandle" ∧ yX6_isDigit.cls ≠ "java/lang/invoke/VarHandle" ∧ (parseMethodDescriptor yX6_isDigit.desc).map (fun d => d.parameters.length) = some 1 := by decide +kernel
def S_X6_isDigit (u : gx_S) (v0 : Int32) (post : Int32 → gx_S → Prop) : Prop := ((v0 < (48 : Int32) → post (0 : Int32) u) ∧ (¬ v0 < (48 : Int32) → (((57 : Int32) < v0 → post (0 : Int32) u) ∧ (¬ (57 : Int32) < v0 → post (1 : Int32) u))))
set_option maxHeartbeats 4000000 in
set_option maxRecDepth 100000 in
theorem w_X6_isDigit {E : gx_E} (X : gx_X E cX6_isDigit 1 RX6 (some .boolean)) (hd : 0 ≤ ex_d E) {post : Int32 → gx_S → Prop} (hQ : ex_Q E = va_Qi post (gx_B (ex_Z E)) (gx_A (ex_Z E))) {u : gx_S} {v0 : Int32} (h : S_X6_isDigit u v0 post) : gx_Wc E 1 0 [(0, .int v0)] [] u := by
  unfold S_X6_isDigit at h
  refine gx_iload_n X (j := 0) dX6_isDigit_0 rfl rfl ?_
  refine gx_bipush X (v := 48) dX6_isDigit_1 (by decide) ?_
  refine gx_icmp_lt X (tgt := 16) dX6_isDigit_3 (by decide) (fun c2 => ?_) (fun c2 => ?_)
  · replace h := h.1 c2
    refine gx_iconst X (v := 0) dX6_isDigit_16 (by decide) ?_
    exact gx_zret X hQ rfl h dX6_isDigit_17
  · replace h := h.2 c2
    refine gx_iload_n X (j := 0) dX6_isDigit_6 rfl rfl ?_
    refine gx_bipush X (v := 57) dX6_isDigit_7 (by decide) ?_
    refine gx_icmp_gt X (tgt := 16) dX6_isDigit_9 (by decide) (fun c1 => ?_) (fun c1 => ?_)
    · replace h := h.1 c1
      refine gx_iconst X (v := 0) dX6_isDigit_16 (by decide) ?_
      exact gx_zret X hQ rfl h dX6_isDigit_17
    · replace h := h.2 c1
      refine gx_iconst X (v := 1) dX6_isDigit_12 (by decide) ?_
      refine gx_goto X (tgt := 17) dX6_isDigit_13 (by decide) ?_
      exact gx_zret X hQ rfl h dX6_isDigit_17
theorem c_X6_isDigit {l : Launch} {Z : gx_Z} {u : gx_S} {v0 : Int32} {post : Int32 → gx_S → Prop} (h : S_X6_isDigit u v0 post) : Met l yX6_isDigit (Cond.code yX6_isDigit cX6_isDigit 1 (some .boolean) :: gx_TB) (gx_rm 0) (gx_Pre Z u [.int v0]) (va_Qi post (gx_B Z) (gx_A Z)) 0 0 (gx_A Z) := by
  refine gx_met (by decide +kernel) (Nat.le_of_ble_eq_true rfl) ?_
  intro E X hZ hQ hD hL
  subst hZ
  exact w_X6_isDigit X (Nat.le_of_eq hD.symm) hQ h
-- PlainSeal.small(I)I
theorem dX6_small_0 : decode cX6_small 0 = .ok (.iload_n 0, 1) := by decide +kernel
theorem dX6_small_1 : decode cX6_small 1 = .ok (.invokestatic 122, 3) := by decide +kernel
theorem dX6_small_4 : decode cX6_small 4 = .ok (.ifCond .eq 13, 3) := by decide +kernel
theorem dX6_small_7 : decode cX6_small 7 = .ok (.iload_n 0, 1) := by decide +kernel
theorem dX6_small_8 : decode cX6_small 8 = .ok (.bipush 65, 2) := by decide +kernel
theorem dX6_small_10 : decode cX6_small 10 = .ok (.isub, 1) := by decide +kernel
theorem dX6_small_11 : decode cX6_small 11 = .ok (.bipush 97, 2) := by decide +kernel
theorem dX6_small_13 : decode cX6_small 13 = .ok (.iadd, 1) := by decide +kernel
theorem dX6_small_14 : decode cX6_small 14 = .ok (.goto 4, 3) := by decide +kernel
theorem dX6_small_17 : decode cX6_small 17 = .ok (.iload_n 0, 1) := by decide +kernel
theorem dX6_small_18 : decode cX6_small 18 = .ok (.ireturn, 1) := by decide +kernel
theorem hyX6_small : yX6_small.cls ≠ "java/lang/invoke/MethodHandle" ∧ yX6_small.cls ≠ "java/lang/invoke/VarHandle" ∧ (parseMethodDescriptor yX6_small.desc).map (fun d => d.parameters.length) = some 1 := by decide +kernel
def S_X6_small (u : gx_S) (v0 : Int32) (post : Int32 → gx_S → Prop) : Prop := (S_X6_isGreatLetter u v0 (fun (r2 : Int32) (u1 : gx_S) => ((r2 = 0 → post v0 u1) ∧ (¬ r2 = 0 → post ((v0 - (65 : Int32)) + (97 : Int32)) u1))))
set_option maxHeartbeats 4000000 in
set_option maxRecDepth 100000 in
theorem w_X6_small {E : gx_E} (X : gx_X E cX6_small 1 RX6 (some .int)) (hd : 1 ≤ ex_d E) {post : Int32 → gx_S → Prop} (hQ : ex_Q E = va_Qi post (gx_B (ex_Z E)) (gx_A (ex_Z E))) {u : gx_S} {v0 : Int32} (h : S_X6_small u v0 post) : gx_Wc E 1 0 [(0, .int v0)] [] u := by
  unfold S_X6_small at h
  refine gx_iload_n X (j := 0) dX6_small_0 rfl rfl ?_
  refine gx_ki (gx_rS X (c_X6_isGreatLetter h) (Nat.le_trans (by decide) hd) (Nat.le_trans (by decide) (Nat.mul_le_mul_left 40 hd)) mw_234 mw_176 mw_1 mw_177 hyX6_isGreatLetter (As := [.int v0]) (rest := []) rfl rfl (Nat.le_of_ble_eq_true rfl) dX6_small_1) (fun r2 u1 h => ?_)
  refine gx_if_eq X (tgt := 17) dX6_small_4 (by decide) (fun c3 => ?_) (fun c3 => ?_)
  · replace h := h.1 c3
    refine gx_iload_n X (j := 0) dX6_small_17 rfl rfl ?_
    exact gx_iret X hQ h dX6_small_18
  · replace h := h.2 c3
    refine gx_iload_n X (j := 0) dX6_small_7 rfl rfl ?_
    refine gx_bipush X (v := 65) dX6_small_8 (by decide) ?_
    refine gx_isub X dX6_small_10 ?_
    refine gx_bipush X (v := 97) dX6_small_11 (by decide) ?_
    refine gx_iadd X dX6_small_13 ?_
    refine gx_goto X (tgt := 18) dX6_small_14 (by decide) ?_
    exact gx_iret X hQ h dX6_small_18
theorem c_X6_small {l : Launch} {Z : gx_Z} {u : gx_S} {v0 : Int32} {post : Int32 → gx_S → Prop} (h : S_X6_small u v0 post) : Met l yX6_small (Cond.code yX6_small cX6_small 1 (some .int) :: gx_TB) (gx_rm 1) (gx_Pre Z u [.int v0]) (va_Qi post (gx_B Z) (gx_A Z)) 0 0 (gx_A Z) := by
  refine gx_met (by decide +kernel) (Nat.le_of_ble_eq_true rfl) ?_
  intro E X hZ hQ hD hL
  subst hZ
  exact w_X6_small X (Nat.le_of_eq hD.symm) hQ h
-- PlainSeal$Bytes.size()I
theorem dX0_size_0 : decode cX0_size 0 = .ok (.aload_n 0, 1) := by decide +kernel
theorem dX0_size_1 : decode cX0_size 1 = .ok (.getfield 15, 3) := by decide +kernel
theorem dX0_size_4 : decode cX0_size 4 = .ok (.ireturn, 1) := by decide +kernel
theorem hyX0_size : yX0_size.cls ≠ "java/lang/invoke/MethodHandle" ∧ yX0_size.cls ≠ "java/lang/invoke/VarHandle" ∧ (parseMethodDescriptor yX0_size.desc).map (fun d => d.parameters.length) = some 0 := by decide +kernel
def S_X0_size (u : gx_S) (v0 : Nat) (post : Int32 → gx_S → Prop) : Prop := (gx_isO v0 0 ∧ post (gx_i u v0 1) u)
set_option maxHeartbeats 4000000 in
set_option maxRecDepth 100000 in
theorem w_X0_size {E : gx_E} (X : gx_X E cX0_size 1 RX0 (some .int)) (hd : 0 ≤ ex_d E) {post : Int32 → gx_S → Prop} (hQ : ex_Q E = va_Qi post (gx_B (ex_Z E)) (gx_A (ex_Z E))) {u : gx_S} {v0 : Nat} (h : S_X0_size u v0 post) : gx_Wc E 1 0 [(0, .ref (ex_ad E v0))] [] u := by
  unfold S_X0_size at h
  refine gx_aload_n X (j := 0) dX0_size_0 rfl rfl ?_
  obtain ⟨k1, h⟩ := h
  refine gx_get X k1 rfl iwX0 1 (by decide) mw_31 (v := .int (gx_i u v0 1)) rfl dX0_size_1 ?_
  exact gx_iret X hQ h dX0_size_4
theorem c_X0_size {l : Launch} {Z : gx_Z} {u : gx_S} {v0 : Nat} {post : Int32 → gx_S → Prop} (h : S_X0_size u v0 post) : Met l yX0_size (Cond.code yX0_size cX0_size 1 (some .int) :: gx_TB) (gx_rm 0) (gx_Pre Z u [.ref (Z.2.1 v0)]) (va_Qi post (gx_B Z) (gx_A Z)) 0 0 (gx_A Z) := by
  refine gx_met (by decide +kernel) (Nat.le_of_ble_eq_true rfl) ?_
  intro E X hZ hQ hD hL
  subst hZ
  exact w_X0_size X (Nat.le_of_eq hD.symm) hQ h
-- PlainSeal$Bytes.at(I)I
theorem dX0_at_0 : decode cX0_at 0 = .ok (.iload_n 1, 1) := by decide +kernel
theorem dX0_at_1 : decode cX0_at 1 = .ok (.ifCond .lt 24, 3) := by decide +kernel
theorem dX0_at_4 : decode cX0_at 4 = .ok (.iload_n 1, 1) := by decide +kernel
theorem dX0_at_5 : decode cX0_at 5 = .ok (.aload_n 0, 1) := by decide +kernel
theorem dX0_at_6 : decode cX0_at 6 = .ok (.getfield 15, 3) := by decide +kernel
theorem dX0_at_9 : decode cX0_at 9 = .ok (.if_icmp .ge 16, 3) := by decide +kernel
theorem dX0_at_12 : decode cX0_at 12 = .ok (.aload_n 0, 1) := by decide +kernel
theorem dX0_at_13 : decode cX0_at 13 = .ok (.getfield 9, 3) := by decide +kernel
theorem dX0_at_16 : decode cX0_at 16 = .ok (.iload_n 1, 1) := by decide +kernel
theorem dX0_at_17 : decode cX0_at 17 = .ok (.baload, 1) := by decide +kernel
theorem dX0_at_18 : decode cX0_at 18 = .ok (.sipush 255, 3) := by decide +kernel
theorem dX0_at_21 : decode cX0_at 21 = .ok (.iand, 1) := by decide +kernel
theorem dX0_at_22 : decode cX0_at 22 = .ok (.goto 5, 3) := by decide +kernel
theorem dX0_at_25 : decode cX0_at 25 = .ok (.bipush (-2), 2) := by decide +kernel
theorem dX0_at_27 : decode cX0_at 27 = .ok (.ireturn, 1) := by decide +kernel
theorem hyX0_at : yX0_at.cls ≠ "java/lang/invoke/MethodHandle" ∧ yX0_at.cls ≠ "java/lang/invoke/VarHandle" ∧ (parseMethodDescriptor yX0_at.desc).map (fun d => d.parameters.length) = some 1 := by decide +kernel
def S_X0_at (u : gx_S) (v0 : Nat) (v1 : Int32) (post : Int32 → gx_S → Prop) : Prop := ((v1 < 0 → post (-2 : Int32) u) ∧ (¬ v1 < 0 → (gx_isO v0 0 ∧ (((gx_i u v0 1) ≤ v1 → post (-2 : Int32) u) ∧ (¬ (gx_i u v0 1) ≤ v1 → (gx_isR (gx_r u v0 0) .byte ∧ vp_in v1 (gx_len (gx_r u v0 0)) ∧ post ((gx_a u (gx_r u v0 0) v1.toNatClampNeg) &&& (255 : Int32)) u))))))
set_option maxHeartbeats 4000000 in
set_option maxRecDepth 100000 in
theorem w_X0_at {E : gx_E} (X : gx_X E cX0_at 2 RX0 (some .int)) (hd : 0 ≤ ex_d E) {post : Int32 → gx_S → Prop} (hQ : ex_Q E = va_Qi post (gx_B (ex_Z E)) (gx_A (ex_Z E))) {u : gx_S} {v0 : Nat} {v1 : Int32} (h : S_X0_at u v0 v1 post) : gx_Wc E 2 0 [(0, .ref (ex_ad E v0)), (1, .int v1)] [] u := by
  unfold S_X0_at at h
  refine gx_iload_n X (j := 1) dX0_at_0 rfl rfl ?_
  refine gx_if_lt X (tgt := 25) dX0_at_1 (by decide) (fun c5 => ?_) (fun c5 => ?_)
  · replace h := h.1 c5
    refine gx_bipush X (v := -2) dX0_at_25 (by decide) ?_
    exact gx_iret X hQ h dX0_at_27
  · replace h := h.2 c5
    refine gx_iload_n X (j := 1) dX0_at_4 rfl rfl ?_
    refine gx_aload_n X (j := 0) dX0_at_5 rfl rfl ?_
    obtain ⟨k1, h⟩ := h
    refine gx_get X k1 rfl iwX0 1 (by decide) mw_31 (v := .int (gx_i u v0 1)) rfl dX0_at_6 ?_
    refine gx_icmp_ge X (tgt := 25) dX0_at_9 (by decide) (fun c4 => ?_) (fun c4 => ?_)
    · replace h := h.1 c4
      refine gx_bipush X (v := -2) dX0_at_25 (by decide) ?_
      exact gx_iret X hQ h dX0_at_27
    · replace h := h.2 c4
      refine gx_aload_n X (j := 0) dX0_at_12 rfl rfl ?_
      refine gx_get X k1 rfl iwX0 0 (by decide) mw_30 (v := .ref (ex_ad E (gx_r u v0 0))) rfl dX0_at_13 ?_
      refine gx_iload_n X (j := 1) dX0_at_16 rfl rfl ?_
      obtain ⟨k2, h⟩ := h
      obtain ⟨k3, h⟩ := h
      refine gx_bald X k2 k3 dX0_at_17 ?_
      refine gx_sipush X (v := 255) dX0_at_18 (by decide) ?_
      refine gx_iand X dX0_at_21 ?_
      refine gx_goto X (tgt := 27) dX0_at_22 (by decide) ?_
      exact gx_iret X hQ h dX0_at_27
theorem c_X0_at {l : Launch} {Z : gx_Z} {u : gx_S} {v0 : Nat} {v1 : Int32} {post : Int32 → gx_S → Prop} (h : S_X0_at u v0 v1 post) : Met l yX0_at (Cond.code yX0_at cX0_at 2 (some .int) :: gx_TB) (gx_rm 0) (gx_Pre Z u [.ref (Z.2.1 v0), .int v1]) (va_Qi post (gx_B Z) (gx_A Z)) 0 0 (gx_A Z) := by
  refine gx_met (by decide +kernel) (Nat.le_of_ble_eq_true rfl) ?_
  intro E X hZ hQ hD hL
  subst hZ
  exact w_X0_at X (Nat.le_of_eq hD.symm) hQ h
-- PlainSeal$Bytes.clear()V
theorem dX0_clear_0 : decode cX0_clear 0 = .ok (.aload_n 0, 1) := by decide +kernel
theorem dX0_clear_1 : decode cX0_clear 1 = .ok (.iconst 0, 1) := by decide +kernel
theorem dX0_clear_2 : decode cX0_clear 2 = .ok (.putfield 15, 3) := by decide +kernel
theorem dX0_clear_5 : decode cX0_clear 5 = .ok (.return_, 1) := by decide +kernel
theorem hyX0_clear : yX0_clear.cls ≠ "java/lang/invoke/MethodHandle" ∧ yX0_clear.cls ≠ "java/lang/invoke/VarHandle" ∧ (parseMethodDescriptor yX0_clear.desc).map (fun d => d.parameters.length) = some 0 := by decide +kernel
def S_X0_clear (u : gx_S) (v0 : Nat) (post : gx_S → Prop) : Prop := (gx_isO v0 0 ∧ ∀ u2 : gx_S, u2 = gx_pi u v0 1 (0 : Int32) → post u2)
set_option maxHeartbeats 4000000 in
set_option maxRecDepth 100000 in
theorem w_X0_clear {E : gx_E} (X : gx_X E cX0_clear 1 RX0 none) (hd : 0 ≤ ex_d E) {post : gx_S → Prop} (hQ : ex_Q E = va_Qv post (gx_B (ex_Z E)) (gx_A (ex_Z E))) {u : gx_S} {v0 : Nat} (h : S_X0_clear u v0 post) : gx_Wc E 1 0 [(0, .ref (ex_ad E v0))] [] u := by
  unfold S_X0_clear at h
  refine gx_aload_n X (j := 0) dX0_clear_0 rfl rfl ?_
  refine gx_iconst X (v := 0) dX0_clear_1 (by decide) ?_
  obtain ⟨k1, h⟩ := h
  refine gx_put X k1 rfl iwX0 tyX0_ok nmX0 1 (by decide) mw_31 rfl rfl rfl (fun _ => rfl) dX0_clear_2 ?_
  refine gx_nams (fun u2 eu2 => ?_)
  replace h := h u2 eu2
  exact gx_vret X hQ h dX0_clear_5
theorem c_X0_clear {l : Launch} {Z : gx_Z} {u : gx_S} {v0 : Nat} {post : gx_S → Prop} (h : S_X0_clear u v0 post) : Met l yX0_clear (Cond.code yX0_clear cX0_clear 1 none :: gx_TB) (gx_rm 0) (gx_Pre Z u [.ref (Z.2.1 v0)]) (va_Qv post (gx_B Z) (gx_A Z)) 0 0 (gx_A Z) := by
  refine gx_met (by decide +kernel) (Nat.le_of_ble_eq_true rfl) ?_
  intro E X hZ hQ hD hL
  subst hZ
  exact w_X0_clear X (Nat.le_of_eq hD.symm) hQ h
-- PlainSeal$Bytes.cutTo(I)V
theorem dX0_cutTo_0 : decode cX0_cutTo 0 = .ok (.iload_n 1, 1) := by decide +kernel
theorem dX0_cutTo_1 : decode cX0_cutTo 1 = .ok (.ifCond .lt 16, 3) := by decide +kernel
theorem dX0_cutTo_4 : decode cX0_cutTo 4 = .ok (.iload_n 1, 1) := by decide +kernel
theorem dX0_cutTo_5 : decode cX0_cutTo 5 = .ok (.aload_n 0, 1) := by decide +kernel
theorem dX0_cutTo_6 : decode cX0_cutTo 6 = .ok (.getfield 15, 3) := by decide +kernel
theorem dX0_cutTo_9 : decode cX0_cutTo 9 = .ok (.if_icmp .ge 8, 3) := by decide +kernel
theorem dX0_cutTo_12 : decode cX0_cutTo 12 = .ok (.aload_n 0, 1) := by decide +kernel
theorem dX0_cutTo_13 : decode cX0_cutTo 13 = .ok (.iload_n 1, 1) := by decide +kernel
theorem dX0_cutTo_14 : decode cX0_cutTo 14 = .ok (.putfield 15, 3) := by decide +kernel
theorem dX0_cutTo_17 : decode cX0_cutTo 17 = .ok (.return_, 1) := by decide +kernel
theorem hyX0_cutTo : yX0_cutTo.cls ≠ "java/lang/invoke/MethodHandle" ∧ yX0_cutTo.cls ≠ "java/lang/invoke/VarHandle" ∧ (parseMethodDescriptor yX0_cutTo.desc).map (fun d => d.parameters.length) = some 1 := by decide +kernel
def S_X0_cutTo (u : gx_S) (v0 : Nat) (v1 : Int32) (post : gx_S → Prop) : Prop := ((v1 < 0 → post u) ∧ (¬ v1 < 0 → (gx_isO v0 0 ∧ (((gx_i u v0 1) ≤ v1 → post u) ∧ (¬ (gx_i u v0 1) ≤ v1 → (∀ u2 : gx_S, u2 = gx_pi u v0 1 v1 → post u2))))))
set_option maxHeartbeats 4000000 in
set_option maxRecDepth 100000 in
theorem w_X0_cutTo {E : gx_E} (X : gx_X E cX0_cutTo 2 RX0 none) (hd : 0 ≤ ex_d E) {post : gx_S → Prop} (hQ : ex_Q E = va_Qv post (gx_B (ex_Z E)) (gx_A (ex_Z E))) {u : gx_S} {v0 : Nat} {v1 : Int32} (h : S_X0_cutTo u v0 v1 post) : gx_Wc E 2 0 [(0, .ref (ex_ad E v0)), (1, .int v1)] [] u := by
  unfold S_X0_cutTo at h
  refine gx_iload_n X (j := 1) dX0_cutTo_0 rfl rfl ?_
  refine gx_if_lt X (tgt := 17) dX0_cutTo_1 (by decide) (fun c4 => ?_) (fun c4 => ?_)
  · replace h := h.1 c4
    exact gx_vret X hQ h dX0_cutTo_17
  · replace h := h.2 c4
    refine gx_iload_n X (j := 1) dX0_cutTo_4 rfl rfl ?_
    refine gx_aload_n X (j := 0) dX0_cutTo_5 rfl rfl ?_
    obtain ⟨k1, h⟩ := h
    refine gx_get X k1 rfl iwX0 1 (by decide) mw_31 (v := .int (gx_i u v0 1)) rfl dX0_cutTo_6 ?_
    refine gx_icmp_ge X (tgt := 17) dX0_cutTo_9 (by decide) (fun c3 => ?_) (fun c3 => ?_)
    · replace h := h.1 c3
      exact gx_vret X hQ h dX0_cutTo_17
    · replace h := h.2 c3
      refine gx_aload_n X (j := 0) dX0_cutTo_12 rfl rfl ?_
      refine gx_iload_n X (j := 1) dX0_cutTo_13 rfl rfl ?_
      refine gx_put X k1 rfl iwX0 tyX0_ok nmX0 1 (by decide) mw_31 rfl rfl rfl (fun _ => rfl) dX0_cutTo_14 ?_
      refine gx_nams (fun u2 eu2 => ?_)
      replace h := h u2 eu2
      exact gx_vret X hQ h dX0_cutTo_17
theorem c_X0_cutTo {l : Launch} {Z : gx_Z} {u : gx_S} {v0 : Nat} {v1 : Int32} {post : gx_S → Prop} (h : S_X0_cutTo u v0 v1 post) : Met l yX0_cutTo (Cond.code yX0_cutTo cX0_cutTo 2 none :: gx_TB) (gx_rm 0) (gx_Pre Z u [.ref (Z.2.1 v0), .int v1]) (va_Qv post (gx_B Z) (gx_A Z)) 0 0 (gx_A Z) := by
  refine gx_met (by decide +kernel) (Nat.le_of_ble_eq_true rfl) ?_
  intro E X hZ hQ hD hL
  subst hZ
  exact w_X0_cutTo X (Nat.le_of_eq hD.symm) hQ h
-- PlainSeal$Bytes.add(I)V
theorem dX0_add_0 : decode cX0_add 0 = .ok (.aload_n 0, 1) := by decide +kernel
theorem dX0_add_1 : decode cX0_add 1 = .ok (.getfield 15, 3) := by decide +kernel
theorem dX0_add_4 : decode cX0_add 4 = .ok (.aload_n 0, 1) := by decide +kernel
theorem dX0_add_5 : decode cX0_add 5 = .ok (.getfield 9, 3) := by decide +kernel
theorem dX0_add_8 : decode cX0_add 8 = .ok (.arraylength, 1) := by decide +kernel
theorem dX0_add_9 : decode cX0_add 9 = .ok (.if_icmp .ge 24, 3) := by decide +kernel
theorem dX0_add_12 : decode cX0_add 12 = .ok (.aload_n 0, 1) := by decide +kernel
theorem dX0_add_13 : decode cX0_add 13 = .ok (.getfield 9, 3) := by decide +kernel
theorem dX0_add_16 : decode cX0_add 16 = .ok (.aload_n 0, 1) := by decide +kernel
theorem dX0_add_17 : decode cX0_add 17 = .ok (.getfield 15, 3) := by decide +kernel
theorem dX0_add_20 : decode cX0_add 20 = .ok (.iload_n 1, 1) := by decide +kernel
theorem dX0_add_21 : decode cX0_add 21 = .ok (.i2b, 1) := by decide +kernel
theorem dX0_add_22 : decode cX0_add 22 = .ok (.bastore, 1) := by decide +kernel
theorem dX0_add_23 : decode cX0_add 23 = .ok (.aload_n 0, 1) := by decide +kernel
theorem dX0_add_24 : decode cX0_add 24 = .ok (.dup, 1) := by decide +kernel
theorem dX0_add_25 : decode cX0_add 25 = .ok (.getfield 15, 3) := by decide +kernel
theorem dX0_add_28 : decode cX0_add 28 = .ok (.iconst 1, 1) := by decide +kernel
theorem dX0_add_29 : decode cX0_add 29 = .ok (.iadd, 1) := by decide +kernel
theorem dX0_add_30 : decode cX0_add 30 = .ok (.putfield 15, 3) := by decide +kernel
theorem dX0_add_33 : decode cX0_add 33 = .ok (.return_, 1) := by decide +kernel
theorem hyX0_add : yX0_add.cls ≠ "java/lang/invoke/MethodHandle" ∧ yX0_add.cls ≠ "java/lang/invoke/VarHandle" ∧ (parseMethodDescriptor yX0_add.desc).map (fun d => d.parameters.length) = some 1 := by decide +kernel
def S_X0_add (u : gx_S) (v0 : Nat) (v1 : Int32) (post : gx_S → Prop) : Prop := (gx_isO v0 0 ∧ (gx_isR (gx_r u v0 0) .byte ∧ (((nI (gx_len (gx_r u v0 0))) ≤ (gx_i u v0 1) → post u) ∧ (¬ (nI (gx_len (gx_r u v0 0))) ≤ (gx_i u v0 1) → (gx_isA (gx_r u v0 0) .byte ∧ vp_in (gx_i u v0 1) (gx_len (gx_r u v0 0)) ∧ ∀ u5 : gx_S, u5 = gx_pa u (gx_r u v0 0) (upd (gx_a u (gx_r u v0 0)) (gx_i u v0 1).toNatClampNeg ((v1).toInt8.toInt32).toInt8.toInt32) → (∀ u6 : gx_S, u6 = gx_pi u5 v0 1 ((gx_i u5 v0 1) + (1 : Int32)) → post u6))))))
set_option maxHeartbeats 4000000 in
set_option maxRecDepth 100000 in
theorem w_X0_add {E : gx_E} (X : gx_X E cX0_add 2 RX0 none) (hd : 0 ≤ ex_d E) {post : gx_S → Prop} (hQ : ex_Q E = va_Qv post (gx_B (ex_Z E)) (gx_A (ex_Z E))) {u : gx_S} {v0 : Nat} {v1 : Int32} (h : S_X0_add u v0 v1 post) : gx_Wc E 2 0 [(0, .ref (ex_ad E v0)), (1, .int v1)] [] u := by
  unfold S_X0_add at h
  refine gx_aload_n X (j := 0) dX0_add_0 rfl rfl ?_
  obtain ⟨k1, h⟩ := h
  refine gx_get X k1 rfl iwX0 1 (by decide) mw_31 (v := .int (gx_i u v0 1)) rfl dX0_add_1 ?_
  refine gx_aload_n X (j := 0) dX0_add_4 rfl rfl ?_
  refine gx_get X k1 rfl iwX0 0 (by decide) mw_30 (v := .ref (ex_ad E (gx_r u v0 0))) rfl dX0_add_5 ?_
  obtain ⟨k2, h⟩ := h
  refine gx_alen X k2 dX0_add_8 ?_
  refine gx_icmp_ge X (tgt := 33) dX0_add_9 (by decide) (fun c7 => ?_) (fun c7 => ?_)
  · replace h := h.1 c7
    exact gx_vret X hQ h dX0_add_33
  · replace h := h.2 c7
    refine gx_aload_n X (j := 0) dX0_add_12 rfl rfl ?_
    refine gx_get X k1 rfl iwX0 0 (by decide) mw_30 (v := .ref (ex_ad E (gx_r u v0 0))) rfl dX0_add_13 ?_
    refine gx_aload_n X (j := 0) dX0_add_16 rfl rfl ?_
    refine gx_get X k1 rfl iwX0 1 (by decide) mw_31 (v := .int (gx_i u v0 1)) rfl dX0_add_17 ?_
    refine gx_iload_n X (j := 1) dX0_add_20 rfl rfl ?_
    refine gx_i2b X (v := (v1).toInt8.toInt32) dX0_add_21 rfl ?_
    obtain ⟨k3, h⟩ := h
    obtain ⟨k4, h⟩ := h
    refine gx_bast X k3 k4 dX0_add_22 ?_
    refine gx_nams (fun u5 eu5 => ?_)
    replace h := h u5 eu5
    refine gx_aload_n X (j := 0) dX0_add_23 rfl rfl ?_
    refine gx_dup X dX0_add_24 rfl ?_
    refine gx_get X k1 rfl iwX0 1 (by decide) mw_31 (v := .int (gx_i u5 v0 1)) rfl dX0_add_25 ?_
    refine gx_iconst X (v := 1) dX0_add_28 (by decide) ?_
    refine gx_iadd X dX0_add_29 ?_
    refine gx_put X k1 rfl iwX0 tyX0_ok nmX0 1 (by decide) mw_31 rfl rfl rfl (fun _ => rfl) dX0_add_30 ?_
    refine gx_nams (fun u6 eu6 => ?_)
    replace h := h u6 eu6
    exact gx_vret X hQ h dX0_add_33
theorem c_X0_add {l : Launch} {Z : gx_Z} {u : gx_S} {v0 : Nat} {v1 : Int32} {post : gx_S → Prop} (h : S_X0_add u v0 v1 post) : Met l yX0_add (Cond.code yX0_add cX0_add 2 none :: gx_TB) (gx_rm 0) (gx_Pre Z u [.ref (Z.2.1 v0), .int v1]) (va_Qv post (gx_B Z) (gx_A Z)) 0 0 (gx_A Z) := by
  refine gx_met (by decide +kernel) (Nat.le_of_ble_eq_true rfl) ?_
  intro E X hZ hQ hD hL
  subst hZ
  exact w_X0_add X (Nat.le_of_eq hD.symm) hQ h
-- PlainSeal$Bytes.addTimes(II)V
theorem dX0_addTimes_0 : decode cX0_addTimes 0 = .ok (.iconst 0, 1) := by decide +kernel
theorem dX0_addTimes_1 : decode cX0_addTimes 1 = .ok (.istore_n 3, 1) := by decide +kernel
theorem dX0_addTimes_2 : decode cX0_addTimes 2 = .ok (.iload_n 3, 1) := by decide +kernel
theorem dX0_addTimes_3 : decode cX0_addTimes 3 = .ok (.iload_n 2, 1) := by decide +kernel
theorem dX0_addTimes_4 : decode cX0_addTimes 4 = .ok (.if_icmp .ge 14, 3) := by decide +kernel
theorem dX0_addTimes_7 : decode cX0_addTimes 7 = .ok (.aload_n 0, 1) := by decide +kernel
theorem dX0_addTimes_8 : decode cX0_addTimes 8 = .ok (.iload_n 1, 1) := by decide +kernel
theorem dX0_addTimes_9 : decode cX0_addTimes 9 = .ok (.invokevirtual 19, 3) := by decide +kernel
theorem dX0_addTimes_12 : decode cX0_addTimes 12 = .ok (.iinc 3 1, 3) := by decide +kernel
theorem dX0_addTimes_15 : decode cX0_addTimes 15 = .ok (.goto (-13), 3) := by decide +kernel
theorem dX0_addTimes_18 : decode cX0_addTimes 18 = .ok (.return_, 1) := by decide +kernel
theorem hyX0_addTimes : yX0_addTimes.cls ≠ "java/lang/invoke/MethodHandle" ∧ yX0_addTimes.cls ≠ "java/lang/invoke/VarHandle" ∧ (parseMethodDescriptor yX0_addTimes.desc).map (fun d => d.parameters.length) = some 2 := by decide +kernel
abbrev J_X0_addTimes_2 (E : gx_E) (v0 : Nat) (v1 : Int32) (v2 : Int32) (v3 : Int32) (u : gx_S) : Prop := gx_Wc E 4 2 [(0, .ref (ex_ad E v0)), (1, .int v1), (2, .int v2), (3, .int v3)] [] u
set_option maxHeartbeats 4000000 in
set_option maxRecDepth 100000 in
theorem w_X0_addTimes_0 {E : gx_E} (X : gx_X E cX0_addTimes 4 RX0 none) (hd : 1 ≤ ex_d E) {post : gx_S → Prop} (hQ : ex_Q E = va_Qv post (gx_B (ex_Z E)) (gx_A (ex_Z E))) {u : gx_S} {v0 : Nat} {v1 : Int32} {v2 : Int32} (h : J_X0_addTimes_2 E v0 v1 v2 (0 : Int32) u) : gx_Wc E 4 0 [(0, .ref (ex_ad E v0)), (1, .int v1), (2, .int v2)] [] u := by
  refine gx_iconst X (v := 0) dX0_addTimes_0 (by decide) ?_
  refine gx_istore_n X (lv' := [(3, .int (0 : Int32)), (0, .ref (ex_ad E v0)), (1, .int v1), (2, .int v2)]) dX0_addTimes_1 rfl (by decide) rfl ?_
  exact gx_sub [1, 2, 3, 0] rfl h
set_option maxHeartbeats 4000000 in
set_option maxRecDepth 100000 in
theorem w_X0_addTimes_2 {E : gx_E} (X : gx_X E cX0_addTimes 4 RX0 none) (hd : 1 ≤ ex_d E) {post : gx_S → Prop} (hQ : ex_Q E = va_Qv post (gx_B (ex_Z E)) (gx_A (ex_Z E))) {u : gx_S} {v0 : Nat} {v1 : Int32} {v2 : Int32} {v3 : Int32} (h : ((v2 ≤ v3 → post u) ∧ (¬ v2 ≤ v3 → (gx_isO v0 0 ∧ S_X0_add u v0 v1 (fun (u2 : gx_S) => (∀ x3 : Int32, x3 = v3 + 1 → J_X0_addTimes_2 E v0 v1 v2 x3 u2)))))) : gx_Wc E 4 2 [(0, .ref (ex_ad E v0)), (1, .int v1), (2, .int v2), (3, .int v3)] [] u := by
  refine gx_iload_n X (j := 3) dX0_addTimes_2 rfl rfl ?_
  refine gx_iload_n X (j := 2) dX0_addTimes_3 rfl rfl ?_
  refine gx_icmp_ge X (tgt := 18) dX0_addTimes_4 (by decide) (fun c4 => ?_) (fun c4 => ?_)
  · replace h := h.1 c4
    exact gx_vret X hQ h dX0_addTimes_18
  · replace h := h.2 c4
    refine gx_aload_n X (j := 0) dX0_addTimes_7 rfl rfl ?_
    refine gx_iload_n X (j := 1) dX0_addTimes_8 rfl rfl ?_
    obtain ⟨k1, h⟩ := h
    refine gx_kv (gx_rV X (c_X0_add h) (Nat.le_trans (by decide) hd) (Nat.le_trans (by decide) (Nat.mul_le_mul_left 40 hd)) k1 rfl mw_135 mw_136 mw_137 mw_2 mw_138 hyX0_add (As := [.int v1]) (rest := []) rfl rfl (Nat.le_of_ble_eq_true rfl) dX0_addTimes_9) (fun u2 h => ?_)
    obtain ⟨x3, ex3⟩ : ∃ y : Int32, y = v3 + 1 := ⟨_, rfl⟩
    replace h := h x3 ex3
    refine gx_iinc X (v := x3) (lv' := [(3, .int x3), (0, .ref (ex_ad E v0)), (1, .int v1), (2, .int v2)]) dX0_addTimes_12 (j := 3) rfl (by rw [ex3]; rfl) (by decide) rfl ?_
    refine gx_goto X (tgt := 2) dX0_addTimes_15 (by decide) ?_
    exact gx_sub [1, 2, 3, 0] rfl h
-- PlainSeal$Bytes.addWord(I)V
theorem dX0_addWord_0 : decode cX0_addWord 0 = .ok (.aload_n 0, 1) := by decide +kernel
theorem dX0_addWord_1 : decode cX0_addWord 1 = .ok (.iload_n 1, 1) := by decide +kernel
theorem dX0_addWord_2 : decode cX0_addWord 2 = .ok (.bipush 24, 2) := by decide +kernel
theorem dX0_addWord_4 : decode cX0_addWord 4 = .ok (.iushr, 1) := by decide +kernel
theorem dX0_addWord_5 : decode cX0_addWord 5 = .ok (.invokevirtual 19, 3) := by decide +kernel
theorem dX0_addWord_8 : decode cX0_addWord 8 = .ok (.aload_n 0, 1) := by decide +kernel
theorem dX0_addWord_9 : decode cX0_addWord 9 = .ok (.iload_n 1, 1) := by decide +kernel
theorem dX0_addWord_10 : decode cX0_addWord 10 = .ok (.bipush 16, 2) := by decide +kernel
theorem dX0_addWord_12 : decode cX0_addWord 12 = .ok (.iushr, 1) := by decide +kernel
theorem dX0_addWord_13 : decode cX0_addWord 13 = .ok (.invokevirtual 19, 3) := by decide +kernel
theorem dX0_addWord_16 : decode cX0_addWord 16 = .ok (.aload_n 0, 1) := by decide +kernel
theorem dX0_addWord_17 : decode cX0_addWord 17 = .ok (.iload_n 1, 1) := by decide +kernel
theorem dX0_addWord_18 : decode cX0_addWord 18 = .ok (.bipush 8, 2) := by decide +kernel
theorem dX0_addWord_20 : decode cX0_addWord 20 = .ok (.iushr, 1) := by decide +kernel
theorem dX0_addWord_21 : decode cX0_addWord 21 = .ok (.invokevirtual 19, 3) := by decide +kernel
theorem dX0_addWord_24 : decode cX0_addWord 24 = .ok (.aload_n 0, 1) := by decide +kernel
theorem dX0_addWord_25 : decode cX0_addWord 25 = .ok (.iload_n 1, 1) := by decide +kernel
theorem dX0_addWord_26 : decode cX0_addWord 26 = .ok (.invokevirtual 19, 3) := by decide +kernel
theorem dX0_addWord_29 : decode cX0_addWord 29 = .ok (.return_, 1) := by decide +kernel
theorem hyX0_addWord : yX0_addWord.cls ≠ "java/lang/invoke/MethodHandle" ∧ yX0_addWord.cls ≠ "java/lang/invoke/VarHandle" ∧ (parseMethodDescriptor yX0_addWord.desc).map (fun d => d.parameters.length) = some 1 := by decide +kernel
def S_X0_addWord (u : gx_S) (v0 : Nat) (v1 : Int32) (post : gx_S → Prop) : Prop := (gx_isO v0 0 ∧ S_X0_add u v0 ((v1.toUInt32 >>> ((24 : Int32).toUInt32 &&& Int32.toUInt32 31)).toInt32) (fun (u2 : gx_S) => (S_X0_add u2 v0 ((v1.toUInt32 >>> ((16 : Int32).toUInt32 &&& Int32.toUInt32 31)).toInt32) (fun (u3 : gx_S) => (S_X0_add u3 v0 ((v1.toUInt32 >>> ((8 : Int32).toUInt32 &&& Int32.toUInt32 31)).toInt32) (fun (u4 : gx_S) => (S_X0_add u4 v0 v1 (fun (u5 : gx_S) => post u5))))))))
set_option maxHeartbeats 4000000 in
set_option maxRecDepth 100000 in
theorem w_X0_addWord {E : gx_E} (X : gx_X E cX0_addWord 2 RX0 none) (hd : 1 ≤ ex_d E) {post : gx_S → Prop} (hQ : ex_Q E = va_Qv post (gx_B (ex_Z E)) (gx_A (ex_Z E))) {u : gx_S} {v0 : Nat} {v1 : Int32} (h : S_X0_addWord u v0 v1 post) : gx_Wc E 2 0 [(0, .ref (ex_ad E v0)), (1, .int v1)] [] u := by
  unfold S_X0_addWord at h
  refine gx_aload_n X (j := 0) dX0_addWord_0 rfl rfl ?_
  refine gx_iload_n X (j := 1) dX0_addWord_1 rfl rfl ?_
  refine gx_bipush X (v := 24) dX0_addWord_2 (by decide) ?_
  refine gx_iushr X (v := (v1.toUInt32 >>> ((24 : Int32).toUInt32 &&& Int32.toUInt32 31)).toInt32) dX0_addWord_4 rfl ?_
  obtain ⟨k1, h⟩ := h
  refine gx_kv (gx_rV X (c_X0_add h) (Nat.le_trans (by decide) hd) (Nat.le_trans (by decide) (Nat.mul_le_mul_left 40 hd)) k1 rfl mw_135 mw_136 mw_137 mw_2 mw_138 hyX0_add (As := [.int ((v1.toUInt32 >>> ((24 : Int32).toUInt32 &&& Int32.toUInt32 31)).toInt32)]) (rest := []) rfl rfl (Nat.le_of_ble_eq_true rfl) dX0_addWord_5) (fun u2 h => ?_)
  refine gx_aload_n X (j := 0) dX0_addWord_8 rfl rfl ?_
  refine gx_iload_n X (j := 1) dX0_addWord_9 rfl rfl ?_
  refine gx_bipush X (v := 16) dX0_addWord_10 (by decide) ?_
  refine gx_iushr X (v := (v1.toUInt32 >>> ((16 : Int32).toUInt32 &&& Int32.toUInt32 31)).toInt32) dX0_addWord_12 rfl ?_
  refine gx_kv (gx_rV X (c_X0_add h) (Nat.le_trans (by decide) hd) (Nat.le_trans (by decide) (Nat.mul_le_mul_left 40 hd)) k1 rfl mw_135 mw_136 mw_137 mw_2 mw_138 hyX0_add (As := [.int ((v1.toUInt32 >>> ((16 : Int32).toUInt32 &&& Int32.toUInt32 31)).toInt32)]) (rest := []) rfl rfl (Nat.le_of_ble_eq_true rfl) dX0_addWord_13) (fun u3 h => ?_)
  refine gx_aload_n X (j := 0) dX0_addWord_16 rfl rfl ?_
  refine gx_iload_n X (j := 1) dX0_addWord_17 rfl rfl ?_
  refine gx_bipush X (v := 8) dX0_addWord_18 (by decide) ?_
  refine gx_iushr X (v := (v1.toUInt32 >>> ((8 : Int32).toUInt32 &&& Int32.toUInt32 31)).toInt32) dX0_addWord_20 rfl ?_
  refine gx_kv (gx_rV X (c_X0_add h) (Nat.le_trans (by decide) hd) (Nat.le_trans (by decide) (Nat.mul_le_mul_left 40 hd)) k1 rfl mw_135 mw_136 mw_137 mw_2 mw_138 hyX0_add (As := [.int ((v1.toUInt32 >>> ((8 : Int32).toUInt32 &&& Int32.toUInt32 31)).toInt32)]) (rest := []) rfl rfl (Nat.le_of_ble_eq_true rfl) dX0_addWord_21) (fun u4 h => ?_)
  refine gx_aload_n X (j := 0) dX0_addWord_24 rfl rfl ?_
  refine gx_iload_n X (j := 1) dX0_addWord_25 rfl rfl ?_
  refine gx_kv (gx_rV X (c_X0_add h) (Nat.le_trans (by decide) hd) (Nat.le_trans (by decide) (Nat.mul_le_mul_left 40 hd)) k1 rfl mw_135 mw_136 mw_137 mw_2 mw_138 hyX0_add (As := [.int v1]) (rest := []) rfl rfl (Nat.le_of_ble_eq_true rfl) dX0_addWord_26) (fun u5 h => ?_)
  exact gx_vret X hQ h dX0_addWord_29
theorem c_X0_addWord {l : Launch} {Z : gx_Z} {u : gx_S} {v0 : Nat} {v1 : Int32} {post : gx_S → Prop} (h : S_X0_addWord u v0 v1 post) : Met l yX0_addWord (Cond.code yX0_addWord cX0_addWord 2 none :: gx_TB) (gx_rm 1) (gx_Pre Z u [.ref (Z.2.1 v0), .int v1]) (va_Qv post (gx_B Z) (gx_A Z)) 0 0 (gx_A Z) := by
  refine gx_met (by decide +kernel) (Nat.le_of_ble_eq_true rfl) ?_
  intro E X hZ hQ hD hL
  subst hZ
  exact w_X0_addWord X (Nat.le_of_eq hD.symm) hQ h
-- PlainSeal$Bytes.addPart(LPlainSeal$Bytes;II)V
theorem dX0_addPart_0 : decode cX0_addPart 0 = .ok (.iload_n 2, 1) := by decide +kernel
theorem dX0_addPart_1 : decode cX0_addPart 1 = .ok (.istore 4, 2) := by decide +kernel
theorem dX0_addPart_3 : decode cX0_addPart 3 = .ok (.iload 4, 2) := by decide +kernel
theorem dX0_addPart_5 : decode cX0_addPart 5 = .ok (.iload_n 3, 1) := by decide +kernel
theorem dX0_addPart_6 : decode cX0_addPart 6 = .ok (.if_icmp .ge 19, 3) := by decide +kernel
theorem dX0_addPart_9 : decode cX0_addPart 9 = .ok (.aload_n 0, 1) := by decide +kernel
theorem dX0_addPart_10 : decode cX0_addPart 10 = .ok (.aload_n 1, 1) := by decide +kernel
theorem dX0_addPart_11 : decode cX0_addPart 11 = .ok (.iload 4, 2) := by decide +kernel
theorem dX0_addPart_13 : decode cX0_addPart 13 = .ok (.invokevirtual 23, 3) := by decide +kernel
theorem dX0_addPart_16 : decode cX0_addPart 16 = .ok (.invokevirtual 19, 3) := by decide +kernel
theorem dX0_addPart_19 : decode cX0_addPart 19 = .ok (.iinc 4 1, 3) := by decide +kernel
theorem dX0_addPart_22 : decode cX0_addPart 22 = .ok (.goto (-19), 3) := by decide +kernel
theorem dX0_addPart_25 : decode cX0_addPart 25 = .ok (.return_, 1) := by decide +kernel
theorem hyX0_addPart : yX0_addPart.cls ≠ "java/lang/invoke/MethodHandle" ∧ yX0_addPart.cls ≠ "java/lang/invoke/VarHandle" ∧ (parseMethodDescriptor yX0_addPart.desc).map (fun d => d.parameters.length) = some 3 := by decide +kernel
abbrev J_X0_addPart_3 (E : gx_E) (v0 : Nat) (v1 : Nat) (v2 : Int32) (v3 : Int32) (v4 : Int32) (u : gx_S) : Prop := gx_Wc E 5 3 [(0, .ref (ex_ad E v0)), (1, .ref (ex_ad E v1)), (2, .int v2), (3, .int v3), (4, .int v4)] [] u
set_option maxHeartbeats 4000000 in
set_option maxRecDepth 100000 in
theorem w_X0_addPart_0 {E : gx_E} (X : gx_X E cX0_addPart 5 RX0 none) (hd : 1 ≤ ex_d E) {post : gx_S → Prop} (hQ : ex_Q E = va_Qv post (gx_B (ex_Z E)) (gx_A (ex_Z E))) {u : gx_S} {v0 : Nat} {v1 : Nat} {v2 : Int32} {v3 : Int32} (h : J_X0_addPart_3 E v0 v1 v2 v3 v2 u) : gx_Wc E 5 0 [(0, .ref (ex_ad E v0)), (1, .ref (ex_ad E v1)), (2, .int v2), (3, .int v3)] [] u := by
  refine gx_iload_n X (j := 2) dX0_addPart_0 rfl rfl ?_
  refine gx_istore X (lv' := [(4, .int v2), (0, .ref (ex_ad E v0)), (1, .ref (ex_ad E v1)), (2, .int v2), (3, .int v3)]) dX0_addPart_1 (by decide) rfl ?_
  exact gx_sub [1, 2, 3, 4, 0] rfl h
set_option maxHeartbeats 4000000 in
set_option maxRecDepth 100000 in
theorem w_X0_addPart_3 {E : gx_E} (X : gx_X E cX0_addPart 5 RX0 none) (hd : 1 ≤ ex_d E) {post : gx_S → Prop} (hQ : ex_Q E = va_Qv post (gx_B (ex_Z E)) (gx_A (ex_Z E))) {u : gx_S} {v0 : Nat} {v1 : Nat} {v2 : Int32} {v3 : Int32} {v4 : Int32} (h : ((v3 ≤ v4 → post u) ∧ (¬ v3 ≤ v4 → (gx_isO v1 0 ∧ S_X0_at u v1 v4 (fun (r3 : Int32) (u2 : gx_S) => (gx_isO v0 0 ∧ S_X0_add u2 v0 r3 (fun (u5 : gx_S) => (∀ x6 : Int32, x6 = v4 + 1 → J_X0_addPart_3 E v0 v1 v2 v3 x6 u5)))))))) : gx_Wc E 5 3 [(0, .ref (ex_ad E v0)), (1, .ref (ex_ad E v1)), (2, .int v2), (3, .int v3), (4, .int v4)] [] u := by
  refine gx_iload X (j := 4) dX0_addPart_3 rfl ?_
  refine gx_iload_n X (j := 3) dX0_addPart_5 rfl rfl ?_
  refine gx_icmp_ge X (tgt := 25) dX0_addPart_6 (by decide) (fun c7 => ?_) (fun c7 => ?_)
  · replace h := h.1 c7
    exact gx_vret X hQ h dX0_addPart_25
  · replace h := h.2 c7
    refine gx_aload_n X (j := 0) dX0_addPart_9 rfl rfl ?_
    refine gx_aload_n X (j := 1) dX0_addPart_10 rfl rfl ?_
    refine gx_iload X (j := 4) dX0_addPart_11 rfl ?_
    obtain ⟨k1, h⟩ := h
    refine gx_ki (gx_rV X (c_X0_at h) (Nat.le_trans (by decide) hd) (Nat.le_trans (by decide) (Nat.mul_le_mul_left 40 hd)) k1 rfl mw_199 mw_163 mw_164 mw_2 mw_165 hyX0_at (As := [.int v4]) (rest := [.ref (ex_ad E v0)]) rfl rfl (Nat.le_of_ble_eq_true rfl) dX0_addPart_13) (fun r3 u2 h => ?_)
    obtain ⟨k4, h⟩ := h
    refine gx_kv (gx_rV X (c_X0_add h) (Nat.le_trans (by decide) hd) (Nat.le_trans (by decide) (Nat.mul_le_mul_left 40 hd)) k4 rfl mw_135 mw_136 mw_137 mw_2 mw_138 hyX0_add (As := [.int r3]) (rest := []) rfl rfl (Nat.le_of_ble_eq_true rfl) dX0_addPart_16) (fun u5 h => ?_)
    obtain ⟨x6, ex6⟩ : ∃ y : Int32, y = v4 + 1 := ⟨_, rfl⟩
    replace h := h x6 ex6
    refine gx_iinc X (v := x6) (lv' := [(4, .int x6), (0, .ref (ex_ad E v0)), (1, .ref (ex_ad E v1)), (2, .int v2), (3, .int v3)]) dX0_addPart_19 (j := 4) rfl (by rw [ex6]; rfl) (by decide) rfl ?_
    refine gx_goto X (tgt := 3) dX0_addPart_22 (by decide) ?_
    exact gx_sub [1, 2, 3, 4, 0] rfl h
-- PlainSeal$Bytes.find(II)I
theorem dX0_find_0 : decode cX0_find 0 = .ok (.iload_n 2, 1) := by decide +kernel
theorem dX0_find_1 : decode cX0_find 1 = .ok (.istore_n 3, 1) := by decide +kernel
theorem dX0_find_2 : decode cX0_find 2 = .ok (.iload_n 3, 1) := by decide +kernel
theorem dX0_find_3 : decode cX0_find 3 = .ok (.aload_n 0, 1) := by decide +kernel
theorem dX0_find_4 : decode cX0_find 4 = .ok (.getfield 15, 3) := by decide +kernel
theorem dX0_find_7 : decode cX0_find 7 = .ok (.if_icmp .ge 20, 3) := by decide +kernel
theorem dX0_find_10 : decode cX0_find 10 = .ok (.aload_n 0, 1) := by decide +kernel
theorem dX0_find_11 : decode cX0_find 11 = .ok (.iload_n 3, 1) := by decide +kernel
theorem dX0_find_12 : decode cX0_find 12 = .ok (.invokevirtual 23, 3) := by decide +kernel
theorem dX0_find_15 : decode cX0_find 15 = .ok (.iload_n 1, 1) := by decide +kernel
theorem dX0_find_16 : decode cX0_find 16 = .ok (.if_icmp .ne 5, 3) := by decide +kernel
theorem dX0_find_19 : decode cX0_find 19 = .ok (.iload_n 3, 1) := by decide +kernel
theorem dX0_find_20 : decode cX0_find 20 = .ok (.ireturn, 1) := by decide +kernel
theorem dX0_find_21 : decode cX0_find 21 = .ok (.iinc 3 1, 3) := by decide +kernel
theorem dX0_find_24 : decode cX0_find 24 = .ok (.goto (-22), 3) := by decide +kernel
theorem dX0_find_27 : decode cX0_find 27 = .ok (.aload_n 0, 1) := by decide +kernel
theorem dX0_find_28 : decode cX0_find 28 = .ok (.getfield 15, 3) := by decide +kernel
theorem dX0_find_31 : decode cX0_find 31 = .ok (.ireturn, 1) := by decide +kernel
theorem hyX0_find : yX0_find.cls ≠ "java/lang/invoke/MethodHandle" ∧ yX0_find.cls ≠ "java/lang/invoke/VarHandle" ∧ (parseMethodDescriptor yX0_find.desc).map (fun d => d.parameters.length) = some 2 := by decide +kernel
abbrev J_X0_find_2 (E : gx_E) (v0 : Nat) (v1 : Int32) (v2 : Int32) (v3 : Int32) (u : gx_S) : Prop := gx_Wc E 4 2 [(0, .ref (ex_ad E v0)), (1, .int v1), (2, .int v2), (3, .int v3)] [] u
set_option maxHeartbeats 4000000 in
set_option maxRecDepth 100000 in
theorem w_X0_find_0 {E : gx_E} (X : gx_X E cX0_find 4 RX0 (some .int)) (hd : 1 ≤ ex_d E) {post : Int32 → gx_S → Prop} (hQ : ex_Q E = va_Qi post (gx_B (ex_Z E)) (gx_A (ex_Z E))) {u : gx_S} {v0 : Nat} {v1 : Int32} {v2 : Int32} (h : J_X0_find_2 E v0 v1 v2 v2 u) : gx_Wc E 4 0 [(0, .ref (ex_ad E v0)), (1, .int v1), (2, .int v2)] [] u := by
  refine gx_iload_n X (j := 2) dX0_find_0 rfl rfl ?_
  refine gx_istore_n X (lv' := [(3, .int v2), (0, .ref (ex_ad E v0)), (1, .int v1), (2, .int v2)]) dX0_find_1 rfl (by decide) rfl ?_
  exact gx_sub [1, 2, 3, 0] rfl h
set_option maxHeartbeats 4000000 in
set_option maxRecDepth 100000 in
theorem w_X0_find_2 {E : gx_E} (X : gx_X E cX0_find 4 RX0 (some .int)) (hd : 1 ≤ ex_d E) {post : Int32 → gx_S → Prop} (hQ : ex_Q E = va_Qi post (gx_B (ex_Z E)) (gx_A (ex_Z E))) {u : gx_S} {v0 : Nat} {v1 : Int32} {v2 : Int32} {v3 : Int32} (h : (gx_isO v0 0 ∧ (((gx_i u v0 1) ≤ v3 → post (gx_i u v0 1) u) ∧ (¬ (gx_i u v0 1) ≤ v3 → (S_X0_at u v0 v3 (fun (r3 : Int32) (u2 : gx_S) => ((¬ r3 = v1 → (∀ x4 : Int32, x4 = v3 + 1 → J_X0_find_2 E v0 v1 v2 x4 u2)) ∧ (r3 = v1 → post v3 u2)))))))) : gx_Wc E 4 2 [(0, .ref (ex_ad E v0)), (1, .int v1), (2, .int v2), (3, .int v3)] [] u := by
  refine gx_iload_n X (j := 3) dX0_find_2 rfl rfl ?_
  refine gx_aload_n X (j := 0) dX0_find_3 rfl rfl ?_
  obtain ⟨k1, h⟩ := h
  refine gx_get X k1 rfl iwX0 1 (by decide) mw_31 (v := .int (gx_i u v0 1)) rfl dX0_find_4 ?_
  refine gx_icmp_ge X (tgt := 27) dX0_find_7 (by decide) (fun c6 => ?_) (fun c6 => ?_)
  · replace h := h.1 c6
    refine gx_aload_n X (j := 0) dX0_find_27 rfl rfl ?_
    refine gx_get X k1 rfl iwX0 1 (by decide) mw_31 (v := .int (gx_i u v0 1)) rfl dX0_find_28 ?_
    exact gx_iret X hQ h dX0_find_31
  · replace h := h.2 c6
    refine gx_aload_n X (j := 0) dX0_find_10 rfl rfl ?_
    refine gx_iload_n X (j := 3) dX0_find_11 rfl rfl ?_
    refine gx_ki (gx_rV X (c_X0_at h) (Nat.le_trans (by decide) hd) (Nat.le_trans (by decide) (Nat.mul_le_mul_left 40 hd)) k1 rfl mw_199 mw_163 mw_164 mw_2 mw_165 hyX0_at (As := [.int v3]) (rest := []) rfl rfl (Nat.le_of_ble_eq_true rfl) dX0_find_12) (fun r3 u2 h => ?_)
    refine gx_iload_n X (j := 1) dX0_find_15 rfl rfl ?_
    refine gx_icmp_ne X (tgt := 21) dX0_find_16 (by decide) (fun c5 => ?_) (fun c5 => ?_)
    · replace h := h.1 c5
      obtain ⟨x4, ex4⟩ : ∃ y : Int32, y = v3 + 1 := ⟨_, rfl⟩
      replace h := h x4 ex4
      refine gx_iinc X (v := x4) (lv' := [(3, .int x4), (0, .ref (ex_ad E v0)), (1, .int v1), (2, .int v2)]) dX0_find_21 (j := 3) rfl (by rw [ex4]; rfl) (by decide) rfl ?_
      refine gx_goto X (tgt := 2) dX0_find_24 (by decide) ?_
      exact gx_sub [1, 2, 3, 0] rfl h
    · replace h := h.2 c5
      refine gx_iload_n X (j := 3) dX0_find_19 rfl rfl ?_
      exact gx_iret X hQ h dX0_find_20
-- PlainSeal$Bytes.dropWhiteAndNewlines()V
theorem dX0_dropWhiteAndNewlines_0 : decode cX0_dropWhiteAndNewlines 0 = .ok (.aload_n 0, 1) := by decide +kernel
theorem dX0_dropWhiteAndNewlines_1 : decode cX0_dropWhiteAndNewlines 1 = .ok (.getfield 15, 3) := by decide +kernel
theorem dX0_dropWhiteAndNewlines_4 : decode cX0_dropWhiteAndNewlines 4 = .ok (.istore_n 1, 1) := by decide +kernel
theorem dX0_dropWhiteAndNewlines_5 : decode cX0_dropWhiteAndNewlines 5 = .ok (.aload_n 0, 1) := by decide +kernel
theorem dX0_dropWhiteAndNewlines_6 : decode cX0_dropWhiteAndNewlines 6 = .ok (.iconst 0, 1) := by decide +kernel
theorem dX0_dropWhiteAndNewlines_7 : decode cX0_dropWhiteAndNewlines 7 = .ok (.putfield 15, 3) := by decide +kernel
theorem dX0_dropWhiteAndNewlines_10 : decode cX0_dropWhiteAndNewlines 10 = .ok (.iconst 0, 1) := by decide +kernel
theorem dX0_dropWhiteAndNewlines_11 : decode cX0_dropWhiteAndNewlines 11 = .ok (.istore_n 2, 1) := by decide +kernel
theorem dX0_dropWhiteAndNewlines_12 : decode cX0_dropWhiteAndNewlines 12 = .ok (.iload_n 2, 1) := by decide +kernel
theorem dX0_dropWhiteAndNewlines_13 : decode cX0_dropWhiteAndNewlines 13 = .ok (.iload_n 1, 1) := by decide +kernel
theorem dX0_dropWhiteAndNewlines_14 : decode cX0_dropWhiteAndNewlines 14 = .ok (.if_icmp .ge 38, 3) := by decide +kernel
theorem dX0_dropWhiteAndNewlines_17 : decode cX0_dropWhiteAndNewlines 17 = .ok (.aload_n 0, 1) := by decide +kernel
theorem dX0_dropWhiteAndNewlines_18 : decode cX0_dropWhiteAndNewlines 18 = .ok (.getfield 9, 3) := by decide +kernel
theorem dX0_dropWhiteAndNewlines_21 : decode cX0_dropWhiteAndNewlines 21 = .ok (.iload_n 2, 1) := by decide +kernel
theorem dX0_dropWhiteAndNewlines_22 : decode cX0_dropWhiteAndNewlines 22 = .ok (.baload, 1) := by decide +kernel
theorem dX0_dropWhiteAndNewlines_23 : decode cX0_dropWhiteAndNewlines 23 = .ok (.sipush 255, 3) := by decide +kernel
theorem dX0_dropWhiteAndNewlines_26 : decode cX0_dropWhiteAndNewlines 26 = .ok (.iand, 1) := by decide +kernel
theorem dX0_dropWhiteAndNewlines_27 : decode cX0_dropWhiteAndNewlines 27 = .ok (.istore_n 3, 1) := by decide +kernel
theorem dX0_dropWhiteAndNewlines_28 : decode cX0_dropWhiteAndNewlines 28 = .ok (.iload_n 3, 1) := by decide +kernel
theorem dX0_dropWhiteAndNewlines_29 : decode cX0_dropWhiteAndNewlines 29 = .ok (.invokestatic 34, 3) := by decide +kernel
theorem dX0_dropWhiteAndNewlines_32 : decode cX0_dropWhiteAndNewlines 32 = .ok (.ifCond .ne 14, 3) := by decide +kernel
theorem dX0_dropWhiteAndNewlines_35 : decode cX0_dropWhiteAndNewlines 35 = .ok (.iload_n 3, 1) := by decide +kernel
theorem dX0_dropWhiteAndNewlines_36 : decode cX0_dropWhiteAndNewlines 36 = .ok (.bipush 10, 2) := by decide +kernel
theorem dX0_dropWhiteAndNewlines_38 : decode cX0_dropWhiteAndNewlines 38 = .ok (.if_icmp .eq 8, 3) := by decide +kernel
theorem dX0_dropWhiteAndNewlines_41 : decode cX0_dropWhiteAndNewlines 41 = .ok (.aload_n 0, 1) := by decide +kernel
theorem dX0_dropWhiteAndNewlines_42 : decode cX0_dropWhiteAndNewlines 42 = .ok (.iload_n 3, 1) := by decide +kernel
theorem dX0_dropWhiteAndNewlines_43 : decode cX0_dropWhiteAndNewlines 43 = .ok (.invokevirtual 19, 3) := by decide +kernel
theorem dX0_dropWhiteAndNewlines_46 : decode cX0_dropWhiteAndNewlines 46 = .ok (.iinc 2 1, 3) := by decide +kernel
theorem dX0_dropWhiteAndNewlines_49 : decode cX0_dropWhiteAndNewlines 49 = .ok (.goto (-37), 3) := by decide +kernel
theorem dX0_dropWhiteAndNewlines_52 : decode cX0_dropWhiteAndNewlines 52 = .ok (.return_, 1) := by decide +kernel
theorem hyX0_dropWhiteAndNewlines : yX0_dropWhiteAndNewlines.cls ≠ "java/lang/invoke/MethodHandle" ∧ yX0_dropWhiteAndNewlines.cls ≠ "java/lang/invoke/VarHandle" ∧ (parseMethodDescriptor yX0_dropWhiteAndNewlines.desc).map (fun d => d.parameters.length) = some 0 := by decide +kernel
abbrev J_X0_dropWhiteAndNewlines_12 (E : gx_E) (v0 : Nat) (v1 : Int32) (v2 : Int32) (u : gx_S) : Prop := gx_Wc E 4 12 [(0, .ref (ex_ad E v0)), (1, .int v1), (2, .int v2)] [] u
set_option maxHeartbeats 4000000 in
set_option maxRecDepth 100000 in
theorem w_X0_dropWhiteAndNewlines_0 {E : gx_E} (X : gx_X E cX0_dropWhiteAndNewlines 4 RX0 none) (hd : 1 ≤ ex_d E) {post : gx_S → Prop} (hQ : ex_Q E = va_Qv post (gx_B (ex_Z E)) (gx_A (ex_Z E))) {u : gx_S} {v0 : Nat} (h : (gx_isO v0 0 ∧ (∀ x2 : Int32, x2 = (gx_i u v0 1) → (∀ u3 : gx_S, u3 = gx_pi u v0 1 (0 : Int32) → J_X0_dropWhiteAndNewlines_12 E v0 x2 (0 : Int32) u3)))) : gx_Wc E 4 0 [(0, .ref (ex_ad E v0))] [] u := by
  refine gx_aload_n X (j := 0) dX0_dropWhiteAndNewlines_0 rfl rfl ?_
  obtain ⟨k1, h⟩ := h
  refine gx_get X k1 rfl iwX0 1 (by decide) mw_31 (v := .int (gx_i u v0 1)) rfl dX0_dropWhiteAndNewlines_1 ?_
  refine gx_nami (fun x2 ex2 => ?_)
  replace h := h x2 ex2
  refine gx_istore_n X (lv' := [(1, .int x2), (0, .ref (ex_ad E v0))]) dX0_dropWhiteAndNewlines_4 rfl (by decide) rfl ?_
  refine gx_aload_n X (j := 1) dX0_dropWhiteAndNewlines_5 rfl rfl ?_
  refine gx_iconst X (v := 0) dX0_dropWhiteAndNewlines_6 (by decide) ?_
  refine gx_put X k1 rfl iwX0 tyX0_ok nmX0 1 (by decide) mw_31 rfl rfl rfl (fun _ => rfl) dX0_dropWhiteAndNewlines_7 ?_
  refine gx_nams (fun u3 eu3 => ?_)
  replace h := h u3 eu3
  refine gx_iconst X (v := 0) dX0_dropWhiteAndNewlines_10 (by decide) ?_
  refine gx_istore_n X (lv' := [(2, .int (0 : Int32)), (1, .int x2), (0, .ref (ex_ad E v0))]) dX0_dropWhiteAndNewlines_11 rfl (by decide) rfl ?_
  exact gx_sub [2, 1, 0] rfl h
set_option maxHeartbeats 4000000 in
set_option maxRecDepth 100000 in
theorem w_X0_dropWhiteAndNewlines_12 {E : gx_E} (X : gx_X E cX0_dropWhiteAndNewlines 4 RX0 none) (hd : 1 ≤ ex_d E) {post : gx_S → Prop} (hQ : ex_Q E = va_Qv post (gx_B (ex_Z E)) (gx_A (ex_Z E))) {u : gx_S} {v0 : Nat} {v1 : Int32} {v2 : Int32} (h : ((v1 ≤ v2 → post u) ∧ (¬ v1 ≤ v2 → (gx_isO v0 0 ∧ (gx_isR (gx_r u v0 0) .byte ∧ vp_in v2 (gx_len (gx_r u v0 0)) ∧ (∀ x4 : Int32, x4 = ((gx_a u (gx_r u v0 0) v2.toNatClampNeg) &&& (255 : Int32)) → (S_X6_isWhite u x4 (fun (r6 : Int32) (u5 : gx_S) => ((¬ r6 = 0 → (∀ x7 : Int32, x7 = v2 + 1 → J_X0_dropWhiteAndNewlines_12 E v0 v1 x7 u5)) ∧ (r6 = 0 → ((x4 = (10 : Int32) → (∀ x8 : Int32, x8 = v2 + 1 → J_X0_dropWhiteAndNewlines_12 E v0 v1 x8 u5)) ∧ (¬ x4 = (10 : Int32) → (S_X0_add u5 v0 x4 (fun (u9 : gx_S) => (∀ x10 : Int32, x10 = v2 + 1 → J_X0_dropWhiteAndNewlines_12 E v0 v1 x10 u9))))))))))))))) : gx_Wc E 4 12 [(0, .ref (ex_ad E v0)), (1, .int v1), (2, .int v2)] [] u := by
  refine gx_iload_n X (j := 2) dX0_dropWhiteAndNewlines_12 rfl rfl ?_
  refine gx_iload_n X (j := 1) dX0_dropWhiteAndNewlines_13 rfl rfl ?_
  refine gx_icmp_ge X (tgt := 52) dX0_dropWhiteAndNewlines_14 (by decide) (fun c13 => ?_) (fun c13 => ?_)
  · replace h := h.1 c13
    exact gx_vret X hQ h dX0_dropWhiteAndNewlines_52
  · replace h := h.2 c13
    refine gx_aload_n X (j := 0) dX0_dropWhiteAndNewlines_17 rfl rfl ?_
    obtain ⟨k1, h⟩ := h
    refine gx_get X k1 rfl iwX0 0 (by decide) mw_30 (v := .ref (ex_ad E (gx_r u v0 0))) rfl dX0_dropWhiteAndNewlines_18 ?_
    refine gx_iload_n X (j := 2) dX0_dropWhiteAndNewlines_21 rfl rfl ?_
    obtain ⟨k2, h⟩ := h
    obtain ⟨k3, h⟩ := h
    refine gx_bald X k2 k3 dX0_dropWhiteAndNewlines_22 ?_
    refine gx_sipush X (v := 255) dX0_dropWhiteAndNewlines_23 (by decide) ?_
    refine gx_iand X dX0_dropWhiteAndNewlines_26 ?_
    refine gx_nami (fun x4 ex4 => ?_)
    replace h := h x4 ex4
    refine gx_istore_n X (lv' := [(3, .int x4), (0, .ref (ex_ad E v0)), (1, .int v1), (2, .int v2)]) dX0_dropWhiteAndNewlines_27 rfl (by decide) rfl ?_
    refine gx_iload_n X (j := 0) dX0_dropWhiteAndNewlines_28 rfl rfl ?_
    refine gx_ki (gx_rSN X (c_X6_isWhite h) (Nat.le_trans (by decide) hd) (Nat.le_trans (by decide) (Nat.mul_le_mul_left 40 hd)) mn_5 mw_185 mw_1 mw_186 hyX6_isWhite (As := [.int x4]) (rest := []) rfl rfl (Nat.le_of_ble_eq_true rfl) dX0_dropWhiteAndNewlines_29) (fun r6 u5 h => ?_)
    refine gx_if_ne X (tgt := 46) dX0_dropWhiteAndNewlines_32 (by decide) (fun c12 => ?_) (fun c12 => ?_)
    · replace h := h.1 c12
      obtain ⟨x7, ex7⟩ : ∃ y : Int32, y = v2 + 1 := ⟨_, rfl⟩
      replace h := h x7 ex7
      refine gx_iinc X (v := x7) (lv' := [(2, .int x7), (3, .int x4), (0, .ref (ex_ad E v0)), (1, .int v1)]) dX0_dropWhiteAndNewlines_46 (j := 3) rfl (by rw [ex7]; rfl) (by decide) rfl ?_
      refine gx_goto X (tgt := 12) dX0_dropWhiteAndNewlines_49 (by decide) ?_
      exact gx_sub [2, 3, 0] rfl h
    · replace h := h.2 c12
      refine gx_iload_n X (j := 0) dX0_dropWhiteAndNewlines_35 rfl rfl ?_
      refine gx_bipush X (v := 10) dX0_dropWhiteAndNewlines_36 (by decide) ?_
      refine gx_icmp_eq X (tgt := 46) dX0_dropWhiteAndNewlines_38 (by decide) (fun c11 => ?_) (fun c11 => ?_)
      · replace h := h.1 c11
        obtain ⟨x8, ex8⟩ : ∃ y : Int32, y = v2 + 1 := ⟨_, rfl⟩
        replace h := h x8 ex8
        refine gx_iinc X (v := x8) (lv' := [(2, .int x8), (3, .int x4), (0, .ref (ex_ad E v0)), (1, .int v1)]) dX0_dropWhiteAndNewlines_46 (j := 3) rfl (by rw [ex8]; rfl) (by decide) rfl ?_
        refine gx_goto X (tgt := 12) dX0_dropWhiteAndNewlines_49 (by decide) ?_
        exact gx_sub [2, 3, 0] rfl h
      · replace h := h.2 c11
        refine gx_aload_n X (j := 1) dX0_dropWhiteAndNewlines_41 rfl rfl ?_
        refine gx_iload_n X (j := 0) dX0_dropWhiteAndNewlines_42 rfl rfl ?_
        refine gx_kv (gx_rV X (c_X0_add h) (Nat.le_trans (by decide) hd) (Nat.le_trans (by decide) (Nat.mul_le_mul_left 40 hd)) k1 rfl mw_135 mw_136 mw_137 mw_2 mw_138 hyX0_add (As := [.int x4]) (rest := []) rfl rfl (Nat.le_of_ble_eq_true rfl) dX0_dropWhiteAndNewlines_43) (fun u9 h => ?_)
        obtain ⟨x10, ex10⟩ : ∃ y : Int32, y = v2 + 1 := ⟨_, rfl⟩
        replace h := h x10 ex10
        refine gx_iinc X (v := x10) (lv' := [(2, .int x10), (3, .int x4), (0, .ref (ex_ad E v0)), (1, .int v1)]) dX0_dropWhiteAndNewlines_46 (j := 3) rfl (by rw [ex10]; rfl) (by decide) rfl ?_
        refine gx_goto X (tgt := 12) dX0_dropWhiteAndNewlines_49 (by decide) ?_
        exact gx_sub [2, 3, 0] rfl h
end
section
theorem gx_ext {u t : gx_S} (h1 : ∀ a b, gx_i u a b = gx_i t a b) (h2 : ∀ a b, gx_l u a b = gx_l t a b) (h3 : ∀ a b, gx_r u a b = gx_r t a b) (h4 : ∀ a, gx_a u a = gx_a t a) : u = t :=
  Prod.ext (funext fun a => funext fun b => h1 a b) (Prod.ext (funext fun a => funext fun b => h2 a b) (Prod.ext (funext fun a => funext fun b => h3 a b) (funext fun a => h4 a)))
/-- the Bytes object o holds the bytes L -/
def byL (u : gx_S) (o : Nat) (L : List Nat) : Prop := gx_isO o 0 ∧ gx_isA (gx_r u o 0) .byte ∧ gx_len (gx_r u o 0) = 2000 ∧ gx_i u o 1 = nI L.length ∧ L.length ≤ 2000 ∧ rdb L (gx_a u (gx_r u o 0))
def byW (u : gx_S) (o : Nat) (f : Nat → Int32) (n : Nat) : gx_S := gx_pi (gx_pa u (gx_r u o 0) f) o 1 (nI n)
/-- post holds when o holds L, all else as before -/
def byU (u : gx_S) (o : Nat) (L : List Nat) (post : gx_S → Prop) : Prop := ∀ f, rdb L f → post (byW u o f L.length)
theorem byW_r (u : gx_S) (o n x y : Nat) (f : Nat → Int32) : gx_r (byW u o f n) x y = gx_r u x y := rfl
theorem byW_l (u : gx_S) (o n x y : Nat) (f : Nat → Int32) : gx_l (byW u o f n) x y = gx_l u x y := rfl
theorem byW_i (u : gx_S) (o n x y : Nat) (f : Nat → Int32) : gx_i (byW u o f n) x y = if x = o ∧ y = 1 then nI n else gx_i u x y := rfl
theorem byW_a (u : gx_S) (o n x : Nat) (f : Nat → Int32) : gx_a (byW u o f n) x = if x = gx_r u o 0 then f else gx_a u x := rfl
theorem byW_W (u : gx_S) (o n m : Nat) (f g : Nat → Int32) : byW (byW u o f n) o g m = byW u o g m := by
  refine gx_ext (fun a b => ?_) (fun _ _ => rfl) (fun _ _ => rfl) (fun a => ?_)
  · rw [byW_i, byW_i, byW_i]; split <;> rfl
  · rw [byW_a, byW_a, byW_a, byW_r]; split <;> rfl
theorem byW_self {u : gx_S} {o n : Nat} (h : gx_i u o 1 = nI n) : byW u o (gx_a u (gx_r u o 0)) n = u := by
  refine gx_ext (fun a b => ?_) (fun _ _ => rfl) (fun _ _ => rfl) (fun a => ?_)
  · rw [byW_i]; split
    · rename_i e; rw [e.1, e.2, h]
    · rfl
  · rw [byW_a]; split
    · rename_i e; rw [e]
    · rfl
theorem byL_W {u : gx_S} {o : Nat} {L M : List Nat} {f : Nat → Int32} (h : byL u o L) (hf : rdb M f) (hM : M.length ≤ 2000) : byL (byW u o f M.length) o M :=
  ⟨h.1, h.2.1, h.2.2.1, by rw [byW_i, if_pos ⟨rfl, rfl⟩], hM, by rw [byW_a, byW_r, if_pos rfl]; exact hf⟩
theorem byL_ne {u : gx_S} {o p n : Nat} {M : List Nat} {f : Nat → Int32} (h : byL u p M) (hp : p ≠ o) (hr : gx_r u p 0 ≠ gx_r u o 0) : byL (byW u o f n) p M :=
  ⟨h.1, h.2.1, h.2.2.1, by rw [byW_i, if_neg (fun e => hp e.1)]; exact h.2.2.2.1, h.2.2.2.2.1, by rw [byW_a, byW_r, if_neg hr]; exact h.2.2.2.2.2⟩
theorem byU_self {u : gx_S} {o : Nat} {L : List Nat} {post : gx_S → Prop} (hB : byL u o L) (h : byU u o L post) : post u := by
  have := h _ hB.2.2.2.2.2
  rwa [byW_self hB.2.2.2.1] at this
theorem byU_W {u : gx_S} {o n : Nat} {L : List Nat} {f : Nat → Int32} {post : gx_S → Prop} (h : byU u o L post) : byU (byW u o f n) o L post := fun g hg => by
  rw [byW_W]; exact h g hg
/-- its size alone is new: cut -/
theorem byW_pi {u : gx_S} {o n : Nat} : gx_pi u o 1 (nI n) = byW u o (gx_a u (gx_r u o 0)) n := by
  refine gx_ext (fun a b => rfl) (fun _ _ => rfl) (fun _ _ => rfl) (fun a => ?_)
  rw [byW_a]; split
  · rename_i e; rw [e]; rfl
  · rfl
theorem i_X6_isWhite {u : gx_S} {c : Nat} {post : Int32 → gx_S → Prop} (h : post (b2 (isW c)) u) : S_X6_isWhite u (cI c) post := by
  have e1 : cI c = (32 : Int32) ↔ c = 32 := cI_eq (k := 32) (by omega)
  have e2 : cI c = (9 : Int32) ↔ c = 9 := cI_eq (k := 9) (by omega)
  unfold S_X6_isWhite
  rw [e1, e2]
  unfold isW b2 at h
  refine ⟨fun q => ?_, fun q => ⟨fun q2 => ?_, fun q2 => ?_⟩⟩
  · subst q; exact h
  · simpa [q, q2] using h
  · subst q2; exact h
theorem i_X6_isSmallLetter {u : gx_S} {c : Nat} {post : Int32 → gx_S → Prop} (h : post (b2 (isS c)) u) (hc : c < 256 ∨ c = 999) : S_X6_isSmallLetter u (cI c) post := by
  have e1 : cI c < (97 : Int32) ↔ _ := cI_lt (k := 97) (by omega)
  have e2 : (122 : Int32) < cI c ↔ _ := cI_gt (k := 122) (by omega)
  unfold S_X6_isSmallLetter
  rw [e1, e2]
  unfold isS b2 at h
  refine ⟨fun q => ?_, fun q => ⟨fun q2 => ?_, fun q2 => ?_⟩⟩
  · rwa [show (decide (97 ≤ c) && decide (c ≤ 122)) = false by simp; omega] at h
  · rwa [show (decide (97 ≤ c) && decide (c ≤ 122)) = false by simp; omega] at h
  · rwa [show (decide (97 ≤ c) && decide (c ≤ 122)) = true by simp; omega] at h
theorem i_X6_isGreatLetter {u : gx_S} {c : Nat} {post : Int32 → gx_S → Prop} (h : post (b2 (isG c)) u) (hc : c < 256 ∨ c = 999) : S_X6_isGreatLetter u (cI c) post := by
  have e1 : cI c < (65 : Int32) ↔ _ := cI_lt (k := 65) (by omega)
  have e2 : (90 : Int32) < cI c ↔ _ := cI_gt (k := 90) (by omega)
  unfold S_X6_isGreatLetter
  rw [e1, e2]
  unfold isG b2 at h
  refine ⟨fun q => ?_, fun q => ⟨fun q2 => ?_, fun q2 => ?_⟩⟩
  · rwa [show (decide (65 ≤ c) && decide (c ≤ 90)) = false by simp; omega] at h
  · rwa [show (decide (65 ≤ c) && decide (c ≤ 90)) = false by simp; omega] at h
  · rwa [show (decide (65 ≤ c) && decide (c ≤ 90)) = true by simp; omega] at h
theorem i_X6_isDigit {u : gx_S} {c : Nat} {post : Int32 → gx_S → Prop} (h : post (b2 (isD c)) u) (hc : c < 256 ∨ c = 999) : S_X6_isDigit u (cI c) post := by
  have e1 : cI c < (48 : Int32) ↔ _ := cI_lt (k := 48) (by omega)
  have e2 : (57 : Int32) < cI c ↔ _ := cI_gt (k := 57) (by omega)
  unfold S_X6_isDigit
  rw [e1, e2]
  unfold isD b2 at h
  refine ⟨fun q => ?_, fun q => ⟨fun q2 => ?_, fun q2 => ?_⟩⟩
  · rwa [show (decide (48 ≤ c) && decide (c ≤ 57)) = false by simp; omega] at h
  · rwa [show (decide (48 ≤ c) && decide (c ≤ 57)) = false by simp; omega] at h
  · rwa [show (decide (48 ≤ c) && decide (c ≤ 57)) = true by simp; omega] at h
theorem i_X6_small {u : gx_S} {c : Nat} {post : Int32 → gx_S → Prop} (h : post (cI (sml c)) u) (hc : c < 256 ∨ c = 999) : S_X6_small u (cI c) post := by
  unfold S_X6_small
  refine i_X6_isGreatLetter ?_ hc
  unfold sml at h
  refine ⟨fun q => ?_, fun q => ?_⟩
  · rw [b2_0] at q
    rw [q] at h
    exact h
  · rw [b2_0] at q
    have q' : isG c = true := by cases hg : isG c <;> simp_all
    rw [q'] at h
    have hr : 65 ≤ c ∧ c ≤ 90 := by simpa [isG] using q'
    have e : cI c - (65 : Int32) + (97 : Int32) = cI (c + 32) := by
      rw [cI_lo (by omega), cI_lo (by omega), show (65 : Int32) = nI 65 from rfl, show (97 : Int32) = nI 97 from rfl, pk_sub (by omega), nI_add]
      congr 1; omega
    rw [e]; exact h
theorem ch_alt {L : List Nat} (h : okL L) (j : Nat) : ch L j < 256 ∨ ch L j = 999 := by
  by_cases hj : j < L.length
  · exact Or.inl (ch_lt h hj)
  · exact Or.inr (ch_ge (by omega))
theorem i_X0_size {u : gx_S} {o : Nat} {L : List Nat} {post : Int32 → gx_S → Prop} (hB : byL u o L) (h : post (nI L.length) u) : S_X0_size u o post := by
  refine ⟨hB.1, ?_⟩
  rw [hB.2.2.2.1]; exact h
theorem i_X0_at {u : gx_S} {o j : Nat} {L : List Nat} {post : Int32 → gx_S → Prop} (hB : byL u o L) (hj : j < 2 ^ 31) (h : post (cI (ch L j)) u) : S_X0_at u o (nI j) post := by
  obtain ⟨h1, h2, h3, h4, h5, h6⟩ := hB
  refine ⟨fun q => absurd q (nI_pos hj), fun _ => ⟨h1, fun q => ?_, fun q => ⟨h2.r, ?_, ?_⟩⟩⟩
  · rw [h4, nI_leI (by omega) hj] at q
    rw [ch_ge q] at h; exact h
  · rw [h4, nI_leI (by omega) hj] at q
    rw [h3]; exact vp_in_nI (by omega) (by omega)
  · rw [h4, nI_leI (by omega) hj] at q
    rw [nI_clamp hj, show (255 : Int32) = 255 from rfl, rdb_at h6 (by omega)]
    rw [cI_lo (ch_lt h6.1 (by omega))] at h; exact h
theorem i_X0_at_neg {u : gx_S} {o : Nat} {x : Int32} {post : Int32 → gx_S → Prop} (hx : x < 0) (h : post (-2) u) : S_X0_at u o x post :=
  ⟨fun _ => h, fun q => absurd hx q⟩
theorem i_X0_clear {u : gx_S} {o : Nat} {L : List Nat} {post : gx_S → Prop} (hB : byL u o L) (h : byU u o [] post) : S_X0_clear u o post := by
  refine ⟨hB.1, fun u1 e => ?_⟩
  have := h (gx_a u (gx_r u o 0)) (rdb_nil _)
  rw [e]
  rw [show (0 : Int32) = nI 0 from nI_0.symm, byW_pi]
  exact this
theorem i_X0_cutTo {u : gx_S} {o n : Nat} {L : List Nat} {post : gx_S → Prop} (hB : byL u o L) (hn : n < 2 ^ 31) (h : byU u o (L.take n) post) : S_X0_cutTo u o (nI n) post := by
  refine ⟨fun q => absurd q (nI_pos hn), fun _ => ⟨hB.1, fun q => ?_, fun q => ?_⟩⟩
  · rw [hB.2.2.2.1, nI_leI (by have := hB.2.2.2.2.1; omega) hn] at q
    rw [List.take_of_length_le q] at h
    exact byU_self hB h
  · rw [hB.2.2.2.1, nI_leI (by have := hB.2.2.2.2.1; omega) hn] at q
    rintro u2 rfl
    have := h _ (rdb_take hB.2.2.2.2.2 n)
    rw [List.length_take, Nat.min_eq_left (by omega)] at this
    rw [byW_pi]; exact this
theorem i_X0_addx {u : gx_S} {o c : Nat} {L : List Nat} {x : Int32} {post : gx_S → Prop} (hB : byL u o L) (hL : L.length < 2000) (hc : c < 256) (hx : x.toInt8.toInt32 = sb_b c) (h : post (byW u o (upd (gx_a u (gx_r u o 0)) L.length (sb_b c)) (L.length + 1))) : S_X0_add u o x post := by
  obtain ⟨h1, h2, h3, h4, h5, h6⟩ := hB
  refine ⟨h1, h2.r, fun q => ?_, fun _ => ⟨h2, ?_, ?_⟩⟩
  · rw [h3, h4] at q; exact absurd q (nI_ge hL (by omega))
  · rw [h4, h3]; exact vp_in_nI hL (by omega)
  · rintro u5 rfl u6 rfl
    rw [gx_i_pa, hx, byte_sb hc, h4, nI_clamp (by omega), nI_1]
    exact h
theorem i_X0_add {u : gx_S} {o c : Nat} {L : List Nat} {x : Int32} {post : gx_S → Prop} (hB : byL u o L) (hL : L.length < 2000) (hc : c < 256) (hx : x.toInt8.toInt32 = sb_b c) (h : byU u o (L ++ [c]) post) : S_X0_add u o x post := by
  refine i_X0_addx hB hL hc hx ?_
  have := h _ (rdb_push hB.2.2.2.2.2 hc rfl)
  rwa [List.length_append, List.length_singleton] at this
theorem len_push (L : List Nat) (c : Nat) : (L ++ [c]).length = L.length + 1 := by simp
theorem byL_push {u : gx_S} {o c : Nat} {L : List Nat} {f : Nat → Int32} (hB : byL u o L) (hf : rdb (L ++ [c]) f) (hL : L.length < 2000) : byL (byW u o f (L ++ [c]).length) o (L ++ [c]) := byL_W hB hf (by rw [len_push]; omega)
-- addTimes
def S_X0_addTimes (u : gx_S) (v0 : Nat) (v1 v2 : Int32) (post : gx_S → Prop) : Prop := ∃ (L : List Nat) (c k : Nat), byL u v0 L ∧ c < 256 ∧ v1.toInt8.toInt32 = sb_b c ∧ v2 = nI k ∧ L.length + k ≤ 2000 ∧ byU u v0 (L ++ List.replicate k c) post
theorem lp_X0_addTimes {E : gx_E} (X : gx_X E cX0_addTimes 4 RX0 none) (hd : 1 ≤ ex_d E) {post : gx_S → Prop} (hQ : ex_Q E = va_Qv post (gx_B (ex_Z E)) (gx_A (ex_Z E))) {v0 : Nat} {v1 : Int32} {c k : Nat} (hc : c < 256) (hv : v1.toInt8.toInt32 = sb_b c) (hk : k ≤ 2000) :
    ∀ (n i : Nat) (u : gx_S) (L : List Nat), k - i = n → i ≤ k → byL u v0 L → L.length + n ≤ 2000 → byU u v0 (L ++ List.replicate n c) post → J_X0_addTimes_2 E v0 v1 (nI k) (nI i) u := by
  intro n
  induction n with
  | zero =>
    intro i u L hn hi hB hL hp
    refine w_X0_addTimes_2 X hd hQ ⟨fun _ => ?_, fun q => absurd (nI_le (by omega) (by omega)) q⟩
    rw [List.replicate_zero, List.append_nil] at hp
    exact byU_self hB hp
  | succ n ih =>
    intro i u L hn hi hB hL hp
    refine w_X0_addTimes_2 X hd hQ ⟨fun q => absurd q (nI_ge (by omega) (by omega)), fun _ => ⟨hB.1, i_X0_add hB (by omega) hc hv (fun f hf => ?_)⟩⟩
    rintro x3 rfl
    rw [nI_1]
    refine ih (i + 1) _ (L ++ [c]) (by omega) (by omega) (byL_push hB hf (by omega)) (by rw [len_push]; omega) (byU_W ?_)
    rwa [List.append_assoc, List.singleton_append, ← List.replicate_succ]
theorem w_X0_addTimes {E : gx_E} (X : gx_X E cX0_addTimes 4 RX0 none) (hd : 1 ≤ ex_d E) {post : gx_S → Prop} (hQ : ex_Q E = va_Qv post (gx_B (ex_Z E)) (gx_A (ex_Z E))) {u : gx_S} {v0 : Nat} {v1 v2 : Int32} (h : S_X0_addTimes u v0 v1 v2 post) : gx_Wc E 4 0 [(0, .ref (ex_ad E v0)), (1, .int v1), (2, .int v2)] [] u := by
  obtain ⟨L, c, k, hB, hc, hv, rfl, hL, hp⟩ := h
  exact w_X0_addTimes_0 X hd hQ (lp_X0_addTimes X hd hQ hc hv (by omega) k 0 u L (by omega) (by omega) hB hL hp)
theorem c_X0_addTimes {l : Launch} {Z : gx_Z} {u : gx_S} {v0 : Nat} {v1 : Int32} {v2 : Int32} {post : gx_S → Prop} (h : S_X0_addTimes u v0 v1 v2 post) : Met l yX0_addTimes (Cond.code yX0_addTimes cX0_addTimes 4 none :: gx_TB) (gx_rm 1) (gx_Pre Z u [.ref (Z.2.1 v0), .int v1, .int v2]) (va_Qv post (gx_B Z) (gx_A Z)) 0 0 (gx_A Z) := by
  refine gx_met (by decide +kernel) (Nat.le_of_ble_eq_true rfl) ?_
  intro E X hZ hQ hD hL
  subst hZ
  exact w_X0_addTimes X (Nat.le_of_eq hD.symm) hQ h
-- addPart
theorem ch_drop {M : List Nat} {i : Nat} (h : i < M.length) : M.drop i = ch M i :: M.drop (i + 1) := by
  rw [List.drop_eq_getElem_cons h]
  unfold ch
  rw [List.getD_eq_getElem?_getD, List.getElem?_eq_getElem h]
  rfl
def S_X0_addPart (u : gx_S) (v0 v1 : Nat) (v2 v3 : Int32) (post : gx_S → Prop) : Prop := ∃ (L M : List Nat) (i j : Nat), byL u v0 L ∧ byL u v1 M ∧ v1 ≠ v0 ∧ gx_r u v1 0 ≠ gx_r u v0 0 ∧ v2 = nI i ∧ v3 = nI j ∧ i < 2 ^ 30 ∧ j ≤ M.length ∧ L.length + (j - i) ≤ 2000 ∧ byU u v0 (L ++ (M.drop i).take (j - i)) post
theorem lp_X0_addPart {E : gx_E} (X : gx_X E cX0_addPart 5 RX0 none) (hd : 1 ≤ ex_d E) {post : gx_S → Prop} (hQ : ex_Q E = va_Qv post (gx_B (ex_Z E)) (gx_A (ex_Z E))) {v0 v1 : Nat} {v2 : Int32} {j : Nat} {M : List Nat} (hj : j ≤ M.length) :
    ∀ (n i : Nat) (u : gx_S) (L : List Nat), j - i = n → i < 2 ^ 30 → byL u v0 L → byL u v1 M → v1 ≠ v0 → gx_r u v1 0 ≠ gx_r u v0 0 → L.length + n ≤ 2000 → byU u v0 (L ++ (M.drop i).take n) post → J_X0_addPart_3 E v0 v1 v2 (nI j) (nI i) u := by
  intro n
  induction n with
  | zero =>
    intro i u L hn hi hB hM hne hr hL hp
    have hM2 := hM.2.2.2.2.1
    refine w_X0_addPart_3 X hd hQ ⟨fun _ => ?_, fun q => absurd (nI_le (by omega) (by omega)) q⟩
    rw [List.take_zero, List.append_nil] at hp
    exact byU_self hB hp
  | succ n ih =>
    intro i u L hn hi hB hM hne hr hL hp
    have hM2 := hM.2.2.2.2.1
    have hci : ch M i < 256 := ch_lt hM.2.2.2.2.2.1 (by omega)
    refine w_X0_addPart_3 X hd hQ ⟨fun q => absurd q (nI_ge (by omega) (by omega)), fun _ => ⟨hM.1, i_X0_at hM (by omega) ⟨hB.1, ?_⟩⟩⟩
    refine i_X0_add hB (by omega) hci (by rw [cI_lo hci, byte_nI (by omega), Nat.mod_eq_of_lt hci]) (fun f hf => ?_)
    rintro x6 rfl
    rw [nI_1]
    refine ih (i + 1) _ (L ++ [ch M i]) (by omega) (by omega) (byL_push hB hf (by omega)) (byL_ne hM hne hr) hne hr (by rw [len_push]; omega) (byU_W ?_)
    rwa [List.append_assoc, List.singleton_append, ← List.take_succ_cons, ← ch_drop (by omega)]
theorem w_X0_addPart {E : gx_E} (X : gx_X E cX0_addPart 5 RX0 none) (hd : 1 ≤ ex_d E) {post : gx_S → Prop} (hQ : ex_Q E = va_Qv post (gx_B (ex_Z E)) (gx_A (ex_Z E))) {u : gx_S} {v0 v1 : Nat} {v2 v3 : Int32} (h : S_X0_addPart u v0 v1 v2 v3 post) : gx_Wc E 5 0 [(0, .ref (ex_ad E v0)), (1, .ref (ex_ad E v1)), (2, .int v2), (3, .int v3)] [] u := by
  obtain ⟨L, M, i, j, hB, hM, hne, hr, rfl, rfl, hi, hj, hL, hp⟩ := h
  exact w_X0_addPart_0 X hd hQ (lp_X0_addPart X hd hQ hj (j - i) i u L rfl hi hB hM hne hr hL hp)
theorem c_X0_addPart {l : Launch} {Z : gx_Z} {u : gx_S} {v0 : Nat} {v1 : Nat} {v2 : Int32} {v3 : Int32} {post : gx_S → Prop} (h : S_X0_addPart u v0 v1 v2 v3 post) : Met l yX0_addPart (Cond.code yX0_addPart cX0_addPart 5 none :: gx_TB) (gx_rm 1) (gx_Pre Z u [.ref (Z.2.1 v0), .ref (Z.2.1 v1), .int v2, .int v3]) (va_Qv post (gx_B Z) (gx_A Z)) 0 0 (gx_A Z) := by
  refine gx_met (by decide +kernel) (Nat.le_of_ble_eq_true rfl) ?_
  intro E X hZ hQ hD hL
  subst hZ
  exact w_X0_addPart X (Nat.le_of_eq hD.symm) hQ h
-- find
def fndF (M : List Nat) (c : Nat) : Nat → Nat → Nat
  | 0, _ => M.length
  | k + 1, i => if ch M i = c then i else fndF M c k (i + 1)
/-- where c stands at or behind i, or the length -/
def fnd (M : List Nat) (c i : Nat) : Nat := fndF M c (M.length - i) i
def S_X0_find (u : gx_S) (v0 : Nat) (v1 v2 : Int32) (post : Int32 → gx_S → Prop) : Prop := ∃ (M : List Nat) (c i : Nat), byL u v0 M ∧ c < 256 ∧ v1 = nI c ∧ i < 2 ^ 30 ∧ v2 = nI i ∧ post (nI (fnd M c i)) u
theorem lp_X0_find {E : gx_E} (X : gx_X E cX0_find 4 RX0 (some .int)) (hd : 1 ≤ ex_d E) {post : Int32 → gx_S → Prop} (hQ : ex_Q E = va_Qi post (gx_B (ex_Z E)) (gx_A (ex_Z E))) {v0 : Nat} {v2 : Int32} {c : Nat} (hc : c < 256) {M : List Nat} {u : gx_S} (hM : byL u v0 M) :
    ∀ (n i : Nat), M.length - i = n → i < 2 ^ 30 → post (nI (fndF M c n i)) u → J_X0_find_2 E v0 (nI c) v2 (nI i) u := by
  have hM2 := hM.2.2.2.2.1
  have hM4 := hM.2.2.2.1
  intro n
  induction n with
  | zero =>
    intro i hn hi hp
    refine w_X0_find_2 X hd hQ ⟨hM.1, ?_, ?_⟩
    · intro _; rw [hM4]; exact hp
    · intro q; rw [hM4] at q; exact absurd (nI_le (by omega) (by omega)) q
  | succ n ih =>
    intro i hn hi hp
    refine w_X0_find_2 X hd hQ ⟨hM.1, ?_, ?_⟩
    · intro q; rw [hM4] at q; exact absurd q (nI_ge (by omega) (by omega))
    · intro _
      refine i_X0_at hM (by omega) ?_
      unfold fndF at hp
      refine ⟨fun q => ?_, fun q => ?_⟩
      · rintro x4 rfl
        rw [nI_1]
        rw [cI_eq hc] at q
        rw [if_neg q] at hp
        exact ih (i + 1) (by omega) (by omega) hp
      · rw [cI_eq hc] at q
        rw [if_pos q] at hp
        exact hp
theorem w_X0_find {E : gx_E} (X : gx_X E cX0_find 4 RX0 (some .int)) (hd : 1 ≤ ex_d E) {post : Int32 → gx_S → Prop} (hQ : ex_Q E = va_Qi post (gx_B (ex_Z E)) (gx_A (ex_Z E))) {u : gx_S} {v0 : Nat} {v1 v2 : Int32} (h : S_X0_find u v0 v1 v2 post) : gx_Wc E 4 0 [(0, .ref (ex_ad E v0)), (1, .int v1), (2, .int v2)] [] u := by
  obtain ⟨M, c, i, hM, hc, rfl, hi, rfl, hp⟩ := h
  exact w_X0_find_0 X hd hQ (lp_X0_find X hd hQ hc hM (M.length - i) i rfl hi hp)
theorem c_X0_find {l : Launch} {Z : gx_Z} {u : gx_S} {v0 : Nat} {v1 : Int32} {v2 : Int32} {post : Int32 → gx_S → Prop} (h : S_X0_find u v0 v1 v2 post) : Met l yX0_find (Cond.code yX0_find cX0_find 4 (some .int) :: gx_TB) (gx_rm 1) (gx_Pre Z u [.ref (Z.2.1 v0), .int v1, .int v2]) (va_Qi post (gx_B Z) (gx_A Z)) 0 0 (gx_A Z) := by
  refine gx_met (by decide +kernel) (Nat.le_of_ble_eq_true rfl) ?_
  intro E X hZ hQ hD hL
  subst hZ
  exact w_X0_find X (Nat.le_of_eq hD.symm) hQ h
-- dropWhiteAndNewlines
def bare (c : Nat) : Bool := !isW c && c != 10
def S_X0_dropWhiteAndNewlines (u : gx_S) (v0 : Nat) (post : gx_S → Prop) : Prop := ∃ L : List Nat, byL u v0 L ∧ byU u v0 (L.filter bare) post
theorem lp_X0_drop {E : gx_E} (X : gx_X E cX0_dropWhiteAndNewlines 4 RX0 none) (hd : 1 ≤ ex_d E) {post : gx_S → Prop} (hQ : ex_Q E = va_Qv post (gx_B (ex_Z E)) (gx_A (ex_Z E))) {v0 : Nat} {L : List Nat} (hL : L.length ≤ 2000) (hok : okL L) :
    ∀ (n i : Nat) (u : gx_S) (K : List Nat), L.length - i = n → i ≤ L.length → byL u v0 K → K.length ≤ i → (∀ j, i ≤ j → j < L.length → gx_a u (gx_r u v0 0) j = sb_b (ch L j)) → byU u v0 (K ++ (L.drop i).filter bare) post → J_X0_dropWhiteAndNewlines_12 E v0 (nI L.length) (nI i) u := by
  intro n
  induction n with
  | zero =>
    intro i u K hn hi hB hK hf hp
    refine w_X0_dropWhiteAndNewlines_12 X hd hQ ⟨fun _ => ?_, fun q => absurd (nI_le (by omega) (by omega)) q⟩
    rw [List.drop_of_length_le (by omega), List.filter_nil, List.append_nil] at hp
    exact byU_self hB hp
  | succ n ih =>
    intro i u K hn hi hB hK hf hp
    have hci : ch L i < 256 := ch_lt hok (by omega)
    refine w_X0_dropWhiteAndNewlines_12 X hd hQ ⟨fun q => absurd q (nI_ge (by omega) (by omega)), fun _ => ⟨hB.1, hB.2.1.r, by rw [hB.2.2.1]; exact vp_in_nI (by omega) (by omega), ?_⟩⟩
    intro x4 e4
    rw [nI_clamp (by omega), hf i (Nat.le_refl _) (by omega), sb_nI hci, ← cI_lo hci] at e4
    subst e4
    rw [ch_drop (by omega)] at hp
    refine i_X6_isWhite ⟨fun q => ?_, fun q => ⟨fun q2 => ?_, fun q2 => ?_⟩⟩
    · rintro x7 rfl
      rw [nI_1]
      rw [b2_0] at q
      have hb : bare (ch L i) = false := by unfold bare; cases h9 : isW (ch L i) <;> simp_all
      rw [List.filter_cons, hb] at hp
      exact ih (i + 1) u K (by omega) (by omega) hB (by omega) (fun j h1 h2 => hf j (by omega) h2) hp
    · rintro x8 rfl
      rw [nI_1]
      have q3 : ch L i = 10 := (cI_eq (k := 10) (by omega)).mp q2
      have hb : bare (ch L i) = false := by unfold bare; rw [q3]; rfl
      rw [List.filter_cons, hb] at hp
      exact ih (i + 1) u K (by omega) (by omega) hB (by omega) (fun j h1 h2 => hf j (by omega) h2) hp
    · have q3 : ¬ ch L i = 10 := fun e => q2 ((cI_eq (k := 10) (by omega)).mpr e)
      rw [b2_0] at q
      have hb : bare (ch L i) = true := by unfold bare; rw [q]; simpa using q3
      rw [List.filter_cons, hb, if_pos rfl] at hp
      refine i_X0_addx hB (by omega) hci (by rw [cI_lo hci, byte_nI (by omega), Nat.mod_eq_of_lt hci]) ?_
      rintro x10 rfl
      rw [nI_1]
      have hpush := rdb_push hB.2.2.2.2.2 hci rfl
      have hB2 := byL_push hB hpush (by omega)
      rw [len_push] at hB2
      refine ih (i + 1) _ (K ++ [ch L i]) (by omega) (by omega) hB2 (by rw [len_push]; omega) (fun j h1 h2 => ?_) (byU_W ?_)
      · rw [byW_a, byW_r, if_pos rfl, pk_un (by omega)]
        exact hf j (by omega) h2
      · rwa [List.append_assoc, List.singleton_append]
theorem w_X0_dropWhiteAndNewlines {E : gx_E} (X : gx_X E cX0_dropWhiteAndNewlines 4 RX0 none) (hd : 1 ≤ ex_d E) {post : gx_S → Prop} (hQ : ex_Q E = va_Qv post (gx_B (ex_Z E)) (gx_A (ex_Z E))) {u : gx_S} {v0 : Nat} (h : S_X0_dropWhiteAndNewlines u v0 post) : gx_Wc E 4 0 [(0, .ref (ex_ad E v0))] [] u := by
  obtain ⟨L, hB, hp⟩ := h
  refine w_X0_dropWhiteAndNewlines_0 X hd hQ ⟨hB.1, ?_⟩
  intro x2 e2 u3 e3
  rw [hB.2.2.2.1] at e2
  subst e2 e3
  rw [show (0 : Int32) = nI 0 from nI_0.symm, byW_pi]
  refine lp_X0_drop X hd hQ hB.2.2.2.2.1 hB.2.2.2.2.2.1 L.length 0 _ [] (by omega) (by omega) (byL_W hB (rdb_nil _) (by simp)) (Nat.le_refl _) (fun j _ h2 => ?_) (byU_W ?_)
  · rw [byW_a, byW_r, if_pos rfl]
    exact hB.2.2.2.2.2.2 j h2
  · rwa [List.drop_zero, List.nil_append]
theorem c_X0_dropWhiteAndNewlines {l : Launch} {Z : gx_Z} {u : gx_S} {v0 : Nat} {post : gx_S → Prop} (h : S_X0_dropWhiteAndNewlines u v0 post) : Met l yX0_dropWhiteAndNewlines (Cond.code yX0_dropWhiteAndNewlines cX0_dropWhiteAndNewlines 4 none :: gx_TB) (gx_rm 1) (gx_Pre Z u [.ref (Z.2.1 v0)]) (va_Qv post (gx_B Z) (gx_A Z)) 0 0 (gx_A Z) := by
  refine gx_met (by decide +kernel) (Nat.le_of_ble_eq_true rfl) ?_
  intro E X hZ hQ hD hL
  subst hZ
  exact w_X0_dropWhiteAndNewlines X (Nat.le_of_eq hD.symm) hQ h
end
section
-- PlainSeal$Bytes.become(LPlainSeal$Bytes;)V
theorem dX0_become_0 : decode cX0_become 0 = .ok (.aload_n 0, 1) := by decide +kernel
theorem dX0_become_1 : decode cX0_become 1 = .ok (.invokevirtual 27, 3) := by decide +kernel
theorem dX0_become_4 : decode cX0_become 4 = .ok (.aload_n 0, 1) := by decide +kernel
theorem dX0_become_5 : decode cX0_become 5 = .ok (.aload_n 1, 1) := by decide +kernel
theorem dX0_become_6 : decode cX0_become 6 = .ok (.iconst 0, 1) := by decide +kernel
theorem dX0_become_7 : decode cX0_become 7 = .ok (.aload_n 1, 1) := by decide +kernel
theorem dX0_become_8 : decode cX0_become 8 = .ok (.getfield 15, 3) := by decide +kernel
theorem dX0_become_11 : decode cX0_become 11 = .ok (.invokevirtual 30, 3) := by decide +kernel
theorem dX0_become_14 : decode cX0_become 14 = .ok (.return_, 1) := by decide +kernel
theorem hyX0_become : yX0_become.cls ≠ "java/lang/invoke/MethodHandle" ∧ yX0_become.cls ≠ "java/lang/invoke/VarHandle" ∧ (parseMethodDescriptor yX0_become.desc).map (fun d => d.parameters.length) = some 1 := by decide +kernel
def S_X0_become (u : gx_S) (v0 : Nat) (v1 : Nat) (post : gx_S → Prop) : Prop := (gx_isO v0 0 ∧ S_X0_clear u v0 (fun (u2 : gx_S) => (gx_isO v1 0 ∧ (S_X0_addPart u2 v0 v1 (0 : Int32) (gx_i u2 v1 1) (fun (u4 : gx_S) => post u4)))))
set_option maxHeartbeats 4000000 in
set_option maxRecDepth 100000 in
theorem w_X0_become {E : gx_E} (X : gx_X E cX0_become 2 RX0 none) (hd : 2 ≤ ex_d E) {post : gx_S → Prop} (hQ : ex_Q E = va_Qv post (gx_B (ex_Z E)) (gx_A (ex_Z E))) {u : gx_S} {v0 : Nat} {v1 : Nat} (h : S_X0_become u v0 v1 post) : gx_Wc E 2 0 [(0, .ref (ex_ad E v0)), (1, .ref (ex_ad E v1))] [] u := by
  unfold S_X0_become at h
  refine gx_aload_n X (j := 0) dX0_become_0 rfl rfl ?_
  obtain ⟨k1, h⟩ := h
  refine gx_kv (gx_rV X (c_X0_clear h) (Nat.le_trans (by decide) hd) (Nat.le_trans (by decide) (Nat.mul_le_mul_left 40 hd)) k1 rfl mw_191 mw_192 mw_193 mw_2 mw_194 hyX0_clear (As := []) (rest := []) rfl rfl (Nat.le_of_ble_eq_true rfl) dX0_become_1) (fun u2 h => ?_)
  refine gx_aload_n X (j := 0) dX0_become_4 rfl rfl ?_
  refine gx_aload_n X (j := 1) dX0_become_5 rfl rfl ?_
  refine gx_iconst X (v := 0) dX0_become_6 (by decide) ?_
  refine gx_aload_n X (j := 1) dX0_become_7 rfl rfl ?_
  obtain ⟨k3, h⟩ := h
  refine gx_get X k3 rfl iwX0 1 (by decide) mw_31 (v := .int (gx_i u2 v1 1)) rfl dX0_become_8 ?_
  refine gx_kv (gx_rV X (c_X0_addPart h) (Nat.le_trans (by decide) hd) (Nat.le_trans (by decide) (Nat.mul_le_mul_left 40 hd)) k1 rfl mw_195 mw_196 mw_197 mw_2 mw_198 hyX0_addPart (As := [.ref (ex_ad E v1), .int (0 : Int32), .int (gx_i u2 v1 1)]) (rest := []) rfl rfl (Nat.le_of_ble_eq_true rfl) dX0_become_11) (fun u4 h => ?_)
  exact gx_vret X hQ h dX0_become_14
theorem c_X0_become {l : Launch} {Z : gx_Z} {u : gx_S} {v0 : Nat} {v1 : Nat} {post : gx_S → Prop} (h : S_X0_become u v0 v1 post) : Met l yX0_become (Cond.code yX0_become cX0_become 2 none :: gx_TB) (gx_rm 2) (gx_Pre Z u [.ref (Z.2.1 v0), .ref (Z.2.1 v1)]) (va_Qv post (gx_B Z) (gx_A Z)) 0 0 (gx_A Z) := by
  refine gx_met (by decide +kernel) (Nat.le_of_ble_eq_true rfl) ?_
  intro E X hZ hQ hD hL
  subst hZ
  exact w_X0_become X (Nat.le_of_eq hD.symm) hQ h
-- PlainSeal$Mail.isMissing()Z
theorem dX1_isMissing_0 : decode cX1_isMissing 0 = .ok (.aload_n 0, 1) := by decide +kernel
theorem dX1_isMissing_1 : decode cX1_isMissing 1 = .ok (.getfield 22, 3) := by decide +kernel
theorem dX1_isMissing_4 : decode cX1_isMissing 4 = .ok (.ifCond .ne 7, 3) := by decide +kernel
theorem dX1_isMissing_7 : decode cX1_isMissing 7 = .ok (.iconst 1, 1) := by decide +kernel
theorem dX1_isMissing_8 : decode cX1_isMissing 8 = .ok (.goto 4, 3) := by decide +kernel
theorem dX1_isMissing_11 : decode cX1_isMissing 11 = .ok (.iconst 0, 1) := by decide +kernel
theorem dX1_isMissing_12 : decode cX1_isMissing 12 = .ok (.ireturn, 1) := by decide +kernel
theorem hyX1_isMissing : yX1_isMissing.cls ≠ "java/lang/invoke/MethodHandle" ∧ yX1_isMissing.cls ≠ "java/lang/invoke/VarHandle" ∧ (parseMethodDescriptor yX1_isMissing.desc).map (fun d => d.parameters.length) = some 0 := by decide +kernel
def S_X1_isMissing (u : gx_S) (v0 : Nat) (post : Int32 → gx_S → Prop) : Prop := (gx_isO v0 1 ∧ ((¬ (gx_i u v0 2) = 0 → post (0 : Int32) u) ∧ ((gx_i u v0 2) = 0 → post (1 : Int32) u)))
set_option maxHeartbeats 4000000 in
set_option maxRecDepth 100000 in
theorem w_X1_isMissing {E : gx_E} (X : gx_X E cX1_isMissing 1 RX1 (some .boolean)) (hd : 0 ≤ ex_d E) {post : Int32 → gx_S → Prop} (hQ : ex_Q E = va_Qi post (gx_B (ex_Z E)) (gx_A (ex_Z E))) {u : gx_S} {v0 : Nat} (h : S_X1_isMissing u v0 post) : gx_Wc E 1 0 [(0, .ref (ex_ad E v0))] [] u := by
  unfold S_X1_isMissing at h
  refine gx_aload_n X (j := 0) dX1_isMissing_0 rfl rfl ?_
  obtain ⟨k1, h⟩ := h
  refine gx_get X k1 rfl iwX1 2 (by decide) mw_48 (v := .int (gx_i u v0 2)) rfl dX1_isMissing_1 ?_
  refine gx_if_ne X (tgt := 11) dX1_isMissing_4 (by decide) (fun c2 => ?_) (fun c2 => ?_)
  · replace h := h.1 c2
    refine gx_iconst X (v := 0) dX1_isMissing_11 (by decide) ?_
    exact gx_zret X hQ rfl h dX1_isMissing_12
  · replace h := h.2 c2
    refine gx_iconst X (v := 1) dX1_isMissing_7 (by decide) ?_
    refine gx_goto X (tgt := 12) dX1_isMissing_8 (by decide) ?_
    exact gx_zret X hQ rfl h dX1_isMissing_12
theorem c_X1_isMissing {l : Launch} {Z : gx_Z} {u : gx_S} {v0 : Nat} {post : Int32 → gx_S → Prop} (h : S_X1_isMissing u v0 post) : Met l yX1_isMissing (Cond.code yX1_isMissing cX1_isMissing 1 (some .boolean) :: gx_TB) (gx_rm 0) (gx_Pre Z u [.ref (Z.2.1 v0)]) (va_Qi post (gx_B Z) (gx_A Z)) 0 0 (gx_A Z) := by
  refine gx_met (by decide +kernel) (Nat.le_of_ble_eq_true rfl) ?_
  intro E X hZ hQ hD hL
  subst hZ
  exact w_X1_isMissing X (Nat.le_of_eq hD.symm) hQ h
-- PlainSeal$Mail.hasField(I)Z
theorem dX1_hasField_0 : decode cX1_hasField 0 = .ok (.iload_n 1, 1) := by decide +kernel
theorem dX1_hasField_1 : decode cX1_hasField 1 = .ok (.ifCond .lt 15, 3) := by decide +kernel
theorem dX1_hasField_4 : decode cX1_hasField 4 = .ok (.iload_n 1, 1) := by decide +kernel
theorem dX1_hasField_5 : decode cX1_hasField 5 = .ok (.aload_n 0, 1) := by decide +kernel
theorem dX1_hasField_6 : decode cX1_hasField 6 = .ok (.getfield 22, 3) := by decide +kernel
theorem dX1_hasField_9 : decode cX1_hasField 9 = .ok (.if_icmp .ge 7, 3) := by decide +kernel
theorem dX1_hasField_12 : decode cX1_hasField 12 = .ok (.iconst 1, 1) := by decide +kernel
theorem dX1_hasField_13 : decode cX1_hasField 13 = .ok (.goto 4, 3) := by decide +kernel
theorem dX1_hasField_16 : decode cX1_hasField 16 = .ok (.iconst 0, 1) := by decide +kernel
theorem dX1_hasField_17 : decode cX1_hasField 17 = .ok (.ireturn, 1) := by decide +kernel
theorem hyX1_hasField : yX1_hasField.cls ≠ "java/lang/invoke/MethodHandle" ∧ yX1_hasField.cls ≠ "java/lang/invoke/VarHandle" ∧ (parseMethodDescriptor yX1_hasField.desc).map (fun d => d.parameters.length) = some 1 := by decide +kernel
def S_X1_hasField (u : gx_S) (v0 : Nat) (v1 : Int32) (post : Int32 → gx_S → Prop) : Prop := ((v1 < 0 → post (0 : Int32) u) ∧ (¬ v1 < 0 → (gx_isO v0 1 ∧ (((gx_i u v0 2) ≤ v1 → post (0 : Int32) u) ∧ (¬ (gx_i u v0 2) ≤ v1 → post (1 : Int32) u)))))
set_option maxHeartbeats 4000000 in
set_option maxRecDepth 100000 in
theorem w_X1_hasField {E : gx_E} (X : gx_X E cX1_hasField 2 RX1 (some .boolean)) (hd : 0 ≤ ex_d E) {post : Int32 → gx_S → Prop} (hQ : ex_Q E = va_Qi post (gx_B (ex_Z E)) (gx_A (ex_Z E))) {u : gx_S} {v0 : Nat} {v1 : Int32} (h : S_X1_hasField u v0 v1 post) : gx_Wc E 2 0 [(0, .ref (ex_ad E v0)), (1, .int v1)] [] u := by
  unfold S_X1_hasField at h
  refine gx_iload_n X (j := 1) dX1_hasField_0 rfl rfl ?_
  refine gx_if_lt X (tgt := 16) dX1_hasField_1 (by decide) (fun c3 => ?_) (fun c3 => ?_)
  · replace h := h.1 c3
    refine gx_iconst X (v := 0) dX1_hasField_16 (by decide) ?_
    exact gx_zret X hQ rfl h dX1_hasField_17
  · replace h := h.2 c3
    refine gx_iload_n X (j := 1) dX1_hasField_4 rfl rfl ?_
    refine gx_aload_n X (j := 0) dX1_hasField_5 rfl rfl ?_
    obtain ⟨k1, h⟩ := h
    refine gx_get X k1 rfl iwX1 2 (by decide) mw_48 (v := .int (gx_i u v0 2)) rfl dX1_hasField_6 ?_
    refine gx_icmp_ge X (tgt := 16) dX1_hasField_9 (by decide) (fun c2 => ?_) (fun c2 => ?_)
    · replace h := h.1 c2
      refine gx_iconst X (v := 0) dX1_hasField_16 (by decide) ?_
      exact gx_zret X hQ rfl h dX1_hasField_17
    · replace h := h.2 c2
      refine gx_iconst X (v := 1) dX1_hasField_12 (by decide) ?_
      refine gx_goto X (tgt := 17) dX1_hasField_13 (by decide) ?_
      exact gx_zret X hQ rfl h dX1_hasField_17
theorem c_X1_hasField {l : Launch} {Z : gx_Z} {u : gx_S} {v0 : Nat} {v1 : Int32} {post : Int32 → gx_S → Prop} (h : S_X1_hasField u v0 v1 post) : Met l yX1_hasField (Cond.code yX1_hasField cX1_hasField 2 (some .boolean) :: gx_TB) (gx_rm 0) (gx_Pre Z u [.ref (Z.2.1 v0), .int v1]) (va_Qi post (gx_B Z) (gx_A Z)) 0 0 (gx_A Z) := by
  refine gx_met (by decide +kernel) (Nat.le_of_ble_eq_true rfl) ?_
  intro E X hZ hQ hD hL
  subst hZ
  exact w_X1_hasField X (Nat.le_of_eq hD.symm) hQ h
-- PlainSeal$Mail.isOfName(I)Z
theorem dX1_isOfName_0 : decode cX1_isOfName 0 = .ok (.iload_n 0, 1) := by decide +kernel
theorem dX1_isOfName_1 : decode cX1_isOfName 1 = .ok (.invokestatic 57, 3) := by decide +kernel
theorem dX1_isOfName_4 : decode cX1_isOfName 4 = .ok (.ifCond .ne 23, 3) := by decide +kernel
theorem dX1_isOfName_7 : decode cX1_isOfName 7 = .ok (.iload_n 0, 1) := by decide +kernel
theorem dX1_isOfName_8 : decode cX1_isOfName 8 = .ok (.invokestatic 60, 3) := by decide +kernel
theorem dX1_isOfName_11 : decode cX1_isOfName 11 = .ok (.ifCond .ne 16, 3) := by decide +kernel
theorem dX1_isOfName_14 : decode cX1_isOfName 14 = .ok (.iload_n 0, 1) := by decide +kernel
theorem dX1_isOfName_15 : decode cX1_isOfName 15 = .ok (.invokestatic 63, 3) := by decide +kernel
theorem dX1_isOfName_18 : decode cX1_isOfName 18 = .ok (.ifCond .ne 9, 3) := by decide +kernel
theorem dX1_isOfName_21 : decode cX1_isOfName 21 = .ok (.iload_n 0, 1) := by decide +kernel
theorem dX1_isOfName_22 : decode cX1_isOfName 22 = .ok (.bipush 45, 2) := by decide +kernel
theorem dX1_isOfName_24 : decode cX1_isOfName 24 = .ok (.if_icmp .ne 7, 3) := by decide +kernel
theorem dX1_isOfName_27 : decode cX1_isOfName 27 = .ok (.iconst 1, 1) := by decide +kernel
theorem dX1_isOfName_28 : decode cX1_isOfName 28 = .ok (.goto 4, 3) := by decide +kernel
theorem dX1_isOfName_31 : decode cX1_isOfName 31 = .ok (.iconst 0, 1) := by decide +kernel
theorem dX1_isOfName_32 : decode cX1_isOfName 32 = .ok (.ireturn, 1) := by decide +kernel
theorem hyX1_isOfName : yX1_isOfName.cls ≠ "java/lang/invoke/MethodHandle" ∧ yX1_isOfName.cls ≠ "java/lang/invoke/VarHandle" ∧ (parseMethodDescriptor yX1_isOfName.desc).map (fun d => d.parameters.length) = some 1 := by decide +kernel
def S_X1_isOfName (u : gx_S) (v0 : Int32) (post : Int32 → gx_S → Prop) : Prop := (S_X6_isSmallLetter u v0 (fun (r2 : Int32) (u1 : gx_S) => ((¬ r2 = 0 → post (1 : Int32) u1) ∧ (r2 = 0 → (S_X6_isGreatLetter u1 v0 (fun (r4 : Int32) (u3 : gx_S) => ((¬ r4 = 0 → post (1 : Int32) u3) ∧ (r4 = 0 → (S_X6_isDigit u3 v0 (fun (r6 : Int32) (u5 : gx_S) => ((¬ r6 = 0 → post (1 : Int32) u5) ∧ (r6 = 0 → ((¬ v0 = (45 : Int32) → post (0 : Int32) u5) ∧ (v0 = (45 : Int32) → post (1 : Int32) u5))))))))))))))
set_option maxHeartbeats 4000000 in
set_option maxRecDepth 100000 in
theorem w_X1_isOfName {E : gx_E} (X : gx_X E cX1_isOfName 1 RX1 (some .boolean)) (hd : 1 ≤ ex_d E) {post : Int32 → gx_S → Prop} (hQ : ex_Q E = va_Qi post (gx_B (ex_Z E)) (gx_A (ex_Z E))) {u : gx_S} {v0 : Int32} (h : S_X1_isOfName u v0 post) : gx_Wc E 1 0 [(0, .int v0)] [] u := by
  unfold S_X1_isOfName at h
  refine gx_iload_n X (j := 0) dX1_isOfName_0 rfl rfl ?_
  refine gx_ki (gx_rSN X (c_X6_isSmallLetter h) (Nat.le_trans (by decide) hd) (Nat.le_trans (by decide) (Nat.mul_le_mul_left 40 hd)) mn_0 mw_173 mw_1 mw_174 hyX6_isSmallLetter (As := [.int v0]) (rest := []) rfl rfl (Nat.le_of_ble_eq_true rfl) dX1_isOfName_1) (fun r2 u1 h => ?_)
  refine gx_if_ne X (tgt := 27) dX1_isOfName_4 (by decide) (fun c10 => ?_) (fun c10 => ?_)
  · replace h := h.1 c10
    refine gx_iconst X (v := 1) dX1_isOfName_27 (by decide) ?_
    refine gx_goto X (tgt := 32) dX1_isOfName_28 (by decide) ?_
    exact gx_zret X hQ rfl h dX1_isOfName_32
  · replace h := h.2 c10
    refine gx_iload_n X (j := 0) dX1_isOfName_7 rfl rfl ?_
    refine gx_ki (gx_rSN X (c_X6_isGreatLetter h) (Nat.le_trans (by decide) hd) (Nat.le_trans (by decide) (Nat.mul_le_mul_left 40 hd)) mn_1 mw_176 mw_1 mw_177 hyX6_isGreatLetter (As := [.int v0]) (rest := []) rfl rfl (Nat.le_of_ble_eq_true rfl) dX1_isOfName_8) (fun r4 u3 h => ?_)
    refine gx_if_ne X (tgt := 27) dX1_isOfName_11 (by decide) (fun c9 => ?_) (fun c9 => ?_)
    · replace h := h.1 c9
      refine gx_iconst X (v := 1) dX1_isOfName_27 (by decide) ?_
      refine gx_goto X (tgt := 32) dX1_isOfName_28 (by decide) ?_
      exact gx_zret X hQ rfl h dX1_isOfName_32
    · replace h := h.2 c9
      refine gx_iload_n X (j := 0) dX1_isOfName_14 rfl rfl ?_
      refine gx_ki (gx_rSN X (c_X6_isDigit h) (Nat.le_trans (by decide) hd) (Nat.le_trans (by decide) (Nat.mul_le_mul_left 40 hd)) mn_2 mw_179 mw_1 mw_180 hyX6_isDigit (As := [.int v0]) (rest := []) rfl rfl (Nat.le_of_ble_eq_true rfl) dX1_isOfName_15) (fun r6 u5 h => ?_)
      refine gx_if_ne X (tgt := 27) dX1_isOfName_18 (by decide) (fun c8 => ?_) (fun c8 => ?_)
      · replace h := h.1 c8
        refine gx_iconst X (v := 1) dX1_isOfName_27 (by decide) ?_
        refine gx_goto X (tgt := 32) dX1_isOfName_28 (by decide) ?_
        exact gx_zret X hQ rfl h dX1_isOfName_32
      · replace h := h.2 c8
        refine gx_iload_n X (j := 0) dX1_isOfName_21 rfl rfl ?_
        refine gx_bipush X (v := 45) dX1_isOfName_22 (by decide) ?_
        refine gx_icmp_ne X (tgt := 31) dX1_isOfName_24 (by decide) (fun c7 => ?_) (fun c7 => ?_)
        · replace h := h.1 c7
          refine gx_iconst X (v := 0) dX1_isOfName_31 (by decide) ?_
          exact gx_zret X hQ rfl h dX1_isOfName_32
        · replace h := h.2 c7
          refine gx_iconst X (v := 1) dX1_isOfName_27 (by decide) ?_
          refine gx_goto X (tgt := 32) dX1_isOfName_28 (by decide) ?_
          exact gx_zret X hQ rfl h dX1_isOfName_32
theorem c_X1_isOfName {l : Launch} {Z : gx_Z} {u : gx_S} {v0 : Int32} {post : Int32 → gx_S → Prop} (h : S_X1_isOfName u v0 post) : Met l yX1_isOfName (Cond.code yX1_isOfName cX1_isOfName 1 (some .boolean) :: gx_TB) (gx_rm 1) (gx_Pre Z u [.int v0]) (va_Qi post (gx_B Z) (gx_A Z)) 0 0 (gx_A Z) := by
  refine gx_met (by decide +kernel) (Nat.le_of_ble_eq_true rfl) ?_
  intro E X hZ hQ hD hL
  subst hZ
  exact w_X1_isOfName X (Nat.le_of_eq hD.symm) hQ h
-- PlainSeal$Mail.nameLength(LPlainSeal$Bytes;I)I
theorem dX1_nameLength_0 : decode cX1_nameLength 0 = .ok (.iconst 0, 1) := by decide +kernel
theorem dX1_nameLength_1 : decode cX1_nameLength 1 = .ok (.istore_n 2, 1) := by decide +kernel
theorem dX1_nameLength_2 : decode cX1_nameLength 2 = .ok (.iload_n 2, 1) := by decide +kernel
theorem dX1_nameLength_3 : decode cX1_nameLength 3 = .ok (.bipush 20, 2) := by decide +kernel
theorem dX1_nameLength_5 : decode cX1_nameLength 5 = .ok (.if_icmp .ge 22, 3) := by decide +kernel
theorem dX1_nameLength_8 : decode cX1_nameLength 8 = .ok (.aload_n 0, 1) := by decide +kernel
theorem dX1_nameLength_9 : decode cX1_nameLength 9 = .ok (.iload_n 1, 1) := by decide +kernel
theorem dX1_nameLength_10 : decode cX1_nameLength 10 = .ok (.iload_n 2, 1) := by decide +kernel
theorem dX1_nameLength_11 : decode cX1_nameLength 11 = .ok (.iadd, 1) := by decide +kernel
theorem dX1_nameLength_12 : decode cX1_nameLength 12 = .ok (.invokevirtual 49, 3) := by decide +kernel
theorem dX1_nameLength_15 : decode cX1_nameLength 15 = .ok (.invokestatic 53, 3) := by decide +kernel
theorem dX1_nameLength_18 : decode cX1_nameLength 18 = .ok (.ifCond .eq 9, 3) := by decide +kernel
theorem dX1_nameLength_21 : decode cX1_nameLength 21 = .ok (.iinc 2 1, 3) := by decide +kernel
theorem dX1_nameLength_24 : decode cX1_nameLength 24 = .ok (.goto (-22), 3) := by decide +kernel
theorem dX1_nameLength_27 : decode cX1_nameLength 27 = .ok (.aload_n 0, 1) := by decide +kernel
theorem dX1_nameLength_28 : decode cX1_nameLength 28 = .ok (.iload_n 1, 1) := by decide +kernel
theorem dX1_nameLength_29 : decode cX1_nameLength 29 = .ok (.iload_n 2, 1) := by decide +kernel
theorem dX1_nameLength_30 : decode cX1_nameLength 30 = .ok (.iadd, 1) := by decide +kernel
theorem dX1_nameLength_31 : decode cX1_nameLength 31 = .ok (.invokevirtual 49, 3) := by decide +kernel
theorem dX1_nameLength_34 : decode cX1_nameLength 34 = .ok (.bipush 58, 2) := by decide +kernel
theorem dX1_nameLength_36 : decode cX1_nameLength 36 = .ok (.if_icmp .ne 7, 3) := by decide +kernel
theorem dX1_nameLength_39 : decode cX1_nameLength 39 = .ok (.iload_n 2, 1) := by decide +kernel
theorem dX1_nameLength_40 : decode cX1_nameLength 40 = .ok (.goto 4, 3) := by decide +kernel
theorem dX1_nameLength_43 : decode cX1_nameLength 43 = .ok (.iconst 0, 1) := by decide +kernel
theorem dX1_nameLength_44 : decode cX1_nameLength 44 = .ok (.ireturn, 1) := by decide +kernel
theorem hyX1_nameLength : yX1_nameLength.cls ≠ "java/lang/invoke/MethodHandle" ∧ yX1_nameLength.cls ≠ "java/lang/invoke/VarHandle" ∧ (parseMethodDescriptor yX1_nameLength.desc).map (fun d => d.parameters.length) = some 2 := by decide +kernel
abbrev J_X1_nameLength_2 (E : gx_E) (v0 : Nat) (v1 : Int32) (v2 : Int32) (u : gx_S) : Prop := gx_Wc E 3 2 [(0, .ref (ex_ad E v0)), (1, .int v1), (2, .int v2)] [] u
set_option maxHeartbeats 4000000 in
set_option maxRecDepth 100000 in
theorem w_X1_nameLength_0 {E : gx_E} (X : gx_X E cX1_nameLength 3 RX1 (some .int)) (hd : 2 ≤ ex_d E) {post : Int32 → gx_S → Prop} (hQ : ex_Q E = va_Qi post (gx_B (ex_Z E)) (gx_A (ex_Z E))) {u : gx_S} {v0 : Nat} {v1 : Int32} (h : J_X1_nameLength_2 E v0 v1 (0 : Int32) u) : gx_Wc E 3 0 [(0, .ref (ex_ad E v0)), (1, .int v1)] [] u := by
  refine gx_iconst X (v := 0) dX1_nameLength_0 (by decide) ?_
  refine gx_istore_n X (lv' := [(2, .int (0 : Int32)), (0, .ref (ex_ad E v0)), (1, .int v1)]) dX1_nameLength_1 rfl (by decide) rfl ?_
  exact gx_sub [1, 2, 0] rfl h
set_option maxHeartbeats 4000000 in
set_option maxRecDepth 100000 in
theorem w_X1_nameLength_2 {E : gx_E} (X : gx_X E cX1_nameLength 3 RX1 (some .int)) (hd : 2 ≤ ex_d E) {post : Int32 → gx_S → Prop} (hQ : ex_Q E = va_Qi post (gx_B (ex_Z E)) (gx_A (ex_Z E))) {u : gx_S} {v0 : Nat} {v1 : Int32} {v2 : Int32} (h : (((20 : Int32) ≤ v2 → (gx_isO v0 0 ∧ S_X0_at u v0 (v1 + v2) (fun (r3 : Int32) (u2 : gx_S) => ((¬ r3 = (58 : Int32) → post (0 : Int32) u2) ∧ (r3 = (58 : Int32) → post v2 u2))))) ∧ (¬ (20 : Int32) ≤ v2 → (gx_isO v0 0 ∧ S_X0_at u v0 (v1 + v2) (fun (r7 : Int32) (u6 : gx_S) => (S_X1_isOfName u6 r7 (fun (r9 : Int32) (u8 : gx_S) => ((r9 = 0 → (S_X0_at u8 v0 (v1 + v2) (fun (r11 : Int32) (u10 : gx_S) => ((¬ r11 = (58 : Int32) → post (0 : Int32) u10) ∧ (r11 = (58 : Int32) → post v2 u10))))) ∧ (¬ r9 = 0 → (∀ x13 : Int32, x13 = v2 + 1 → J_X1_nameLength_2 E v0 v1 x13 u8)))))))))) : gx_Wc E 3 2 [(0, .ref (ex_ad E v0)), (1, .int v1), (2, .int v2)] [] u := by
  refine gx_iload_n X (j := 2) dX1_nameLength_2 rfl rfl ?_
  refine gx_bipush X (v := 20) dX1_nameLength_3 (by decide) ?_
  refine gx_icmp_ge X (tgt := 27) dX1_nameLength_5 (by decide) (fun c15 => ?_) (fun c15 => ?_)
  · replace h := h.1 c15
    refine gx_aload_n X (j := 0) dX1_nameLength_27 rfl rfl ?_
    refine gx_iload_n X (j := 1) dX1_nameLength_28 rfl rfl ?_
    refine gx_iload_n X (j := 2) dX1_nameLength_29 rfl rfl ?_
    refine gx_iadd X dX1_nameLength_30 ?_
    obtain ⟨k1, h⟩ := h
    refine gx_ki (gx_rV X (c_X0_at h) (Nat.le_trans (by decide) hd) (Nat.le_trans (by decide) (Nat.mul_le_mul_left 40 hd)) k1 rfl mw_162 mw_163 mw_164 mw_2 mw_165 hyX0_at (As := [.int (v1 + v2)]) (rest := []) rfl rfl (Nat.le_of_ble_eq_true rfl) dX1_nameLength_31) (fun r3 u2 h => ?_)
    refine gx_bipush X (v := 58) dX1_nameLength_34 (by decide) ?_
    refine gx_icmp_ne X (tgt := 43) dX1_nameLength_36 (by decide) (fun c4 => ?_) (fun c4 => ?_)
    · replace h := h.1 c4
      refine gx_iconst X (v := 0) dX1_nameLength_43 (by decide) ?_
      exact gx_iret X hQ h dX1_nameLength_44
    · replace h := h.2 c4
      refine gx_iload_n X (j := 2) dX1_nameLength_39 rfl rfl ?_
      refine gx_goto X (tgt := 44) dX1_nameLength_40 (by decide) ?_
      exact gx_iret X hQ h dX1_nameLength_44
  · replace h := h.2 c15
    refine gx_aload_n X (j := 0) dX1_nameLength_8 rfl rfl ?_
    refine gx_iload_n X (j := 1) dX1_nameLength_9 rfl rfl ?_
    refine gx_iload_n X (j := 2) dX1_nameLength_10 rfl rfl ?_
    refine gx_iadd X dX1_nameLength_11 ?_
    obtain ⟨k5, h⟩ := h
    refine gx_ki (gx_rV X (c_X0_at h) (Nat.le_trans (by decide) hd) (Nat.le_trans (by decide) (Nat.mul_le_mul_left 40 hd)) k5 rfl mw_162 mw_163 mw_164 mw_2 mw_165 hyX0_at (As := [.int (v1 + v2)]) (rest := []) rfl rfl (Nat.le_of_ble_eq_true rfl) dX1_nameLength_12) (fun r7 u6 h => ?_)
    refine gx_ki (gx_rS X (c_X1_isOfName h) (Nat.le_trans (by decide) hd) (Nat.le_trans (by decide) (Nat.mul_le_mul_left 40 hd)) mw_169 mw_170 mw_3 mw_171 hyX1_isOfName (As := [.int r7]) (rest := []) rfl rfl (Nat.le_of_ble_eq_true rfl) dX1_nameLength_15) (fun r9 u8 h => ?_)
    refine gx_if_eq X (tgt := 27) dX1_nameLength_18 (by decide) (fun c14 => ?_) (fun c14 => ?_)
    · replace h := h.1 c14
      refine gx_aload_n X (j := 0) dX1_nameLength_27 rfl rfl ?_
      refine gx_iload_n X (j := 1) dX1_nameLength_28 rfl rfl ?_
      refine gx_iload_n X (j := 2) dX1_nameLength_29 rfl rfl ?_
      refine gx_iadd X dX1_nameLength_30 ?_
      refine gx_ki (gx_rV X (c_X0_at h) (Nat.le_trans (by decide) hd) (Nat.le_trans (by decide) (Nat.mul_le_mul_left 40 hd)) k5 rfl mw_162 mw_163 mw_164 mw_2 mw_165 hyX0_at (As := [.int (v1 + v2)]) (rest := []) rfl rfl (Nat.le_of_ble_eq_true rfl) dX1_nameLength_31) (fun r11 u10 h => ?_)
      refine gx_bipush X (v := 58) dX1_nameLength_34 (by decide) ?_
      refine gx_icmp_ne X (tgt := 43) dX1_nameLength_36 (by decide) (fun c12 => ?_) (fun c12 => ?_)
      · replace h := h.1 c12
        refine gx_iconst X (v := 0) dX1_nameLength_43 (by decide) ?_
        exact gx_iret X hQ h dX1_nameLength_44
      · replace h := h.2 c12
        refine gx_iload_n X (j := 2) dX1_nameLength_39 rfl rfl ?_
        refine gx_goto X (tgt := 44) dX1_nameLength_40 (by decide) ?_
        exact gx_iret X hQ h dX1_nameLength_44
    · replace h := h.2 c14
      obtain ⟨x13, ex13⟩ : ∃ y : Int32, y = v2 + 1 := ⟨_, rfl⟩
      replace h := h x13 ex13
      refine gx_iinc X (v := x13) (lv' := [(2, .int x13), (0, .ref (ex_ad E v0)), (1, .int v1)]) dX1_nameLength_21 (j := 2) rfl (by rw [ex13]; rfl) (by decide) rfl ?_
      refine gx_goto X (tgt := 2) dX1_nameLength_24 (by decide) ?_
      exact gx_sub [1, 2, 0] rfl h
-- PlainSeal$Mail.fieldsEndAt(LPlainSeal$Bytes;I)Z
theorem dX1_fieldsEndAt_0 : decode cX1_fieldsEndAt 0 = .ok (.iload_n 1, 1) := by decide +kernel
theorem dX1_fieldsEndAt_1 : decode cX1_fieldsEndAt 1 = .ok (.aload_n 0, 1) := by decide +kernel
theorem dX1_fieldsEndAt_2 : decode cX1_fieldsEndAt 2 = .ok (.invokevirtual 45, 3) := by decide +kernel
theorem dX1_fieldsEndAt_5 : decode cX1_fieldsEndAt 5 = .ok (.if_icmp .ge 13, 3) := by decide +kernel
theorem dX1_fieldsEndAt_8 : decode cX1_fieldsEndAt 8 = .ok (.aload_n 0, 1) := by decide +kernel
theorem dX1_fieldsEndAt_9 : decode cX1_fieldsEndAt 9 = .ok (.iload_n 1, 1) := by decide +kernel
theorem dX1_fieldsEndAt_10 : decode cX1_fieldsEndAt 10 = .ok (.invokevirtual 49, 3) := by decide +kernel
theorem dX1_fieldsEndAt_13 : decode cX1_fieldsEndAt 13 = .ok (.bipush 10, 2) := by decide +kernel
theorem dX1_fieldsEndAt_15 : decode cX1_fieldsEndAt 15 = .ok (.if_icmp .ne 7, 3) := by decide +kernel
theorem dX1_fieldsEndAt_18 : decode cX1_fieldsEndAt 18 = .ok (.iconst 1, 1) := by decide +kernel
theorem dX1_fieldsEndAt_19 : decode cX1_fieldsEndAt 19 = .ok (.goto 4, 3) := by decide +kernel
theorem dX1_fieldsEndAt_22 : decode cX1_fieldsEndAt 22 = .ok (.iconst 0, 1) := by decide +kernel
theorem dX1_fieldsEndAt_23 : decode cX1_fieldsEndAt 23 = .ok (.ireturn, 1) := by decide +kernel
theorem hyX1_fieldsEndAt : yX1_fieldsEndAt.cls ≠ "java/lang/invoke/MethodHandle" ∧ yX1_fieldsEndAt.cls ≠ "java/lang/invoke/VarHandle" ∧ (parseMethodDescriptor yX1_fieldsEndAt.desc).map (fun d => d.parameters.length) = some 2 := by decide +kernel
def S_X1_fieldsEndAt (u : gx_S) (v0 : Nat) (v1 : Int32) (post : Int32 → gx_S → Prop) : Prop := (gx_isO v0 0 ∧ S_X0_size u v0 (fun (r3 : Int32) (u2 : gx_S) => ((r3 ≤ v1 → post (1 : Int32) u2) ∧ (¬ r3 ≤ v1 → (S_X0_at u2 v0 v1 (fun (r5 : Int32) (u4 : gx_S) => ((¬ r5 = (10 : Int32) → post (0 : Int32) u4) ∧ (r5 = (10 : Int32) → post (1 : Int32) u4))))))))
set_option maxHeartbeats 4000000 in
set_option maxRecDepth 100000 in
theorem w_X1_fieldsEndAt {E : gx_E} (X : gx_X E cX1_fieldsEndAt 2 RX1 (some .boolean)) (hd : 1 ≤ ex_d E) {post : Int32 → gx_S → Prop} (hQ : ex_Q E = va_Qi post (gx_B (ex_Z E)) (gx_A (ex_Z E))) {u : gx_S} {v0 : Nat} {v1 : Int32} (h : S_X1_fieldsEndAt u v0 v1 post) : gx_Wc E 2 0 [(0, .ref (ex_ad E v0)), (1, .int v1)] [] u := by
  unfold S_X1_fieldsEndAt at h
  refine gx_iload_n X (j := 1) dX1_fieldsEndAt_0 rfl rfl ?_
  refine gx_aload_n X (j := 0) dX1_fieldsEndAt_1 rfl rfl ?_
  obtain ⟨k1, h⟩ := h
  refine gx_ki (gx_rV X (c_X0_size h) (Nat.le_trans (by decide) hd) (Nat.le_trans (by decide) (Nat.mul_le_mul_left 40 hd)) k1 rfl mw_161 mw_128 mw_129 mw_2 mw_130 hyX0_size (As := []) (rest := [.int v1]) rfl rfl (Nat.le_of_ble_eq_true rfl) dX1_fieldsEndAt_2) (fun r3 u2 h => ?_)
  refine gx_icmp_ge X (tgt := 18) dX1_fieldsEndAt_5 (by decide) (fun c7 => ?_) (fun c7 => ?_)
  · replace h := h.1 c7
    refine gx_iconst X (v := 1) dX1_fieldsEndAt_18 (by decide) ?_
    refine gx_goto X (tgt := 23) dX1_fieldsEndAt_19 (by decide) ?_
    exact gx_zret X hQ rfl h dX1_fieldsEndAt_23
  · replace h := h.2 c7
    refine gx_aload_n X (j := 0) dX1_fieldsEndAt_8 rfl rfl ?_
    refine gx_iload_n X (j := 1) dX1_fieldsEndAt_9 rfl rfl ?_
    refine gx_ki (gx_rV X (c_X0_at h) (Nat.le_trans (by decide) hd) (Nat.le_trans (by decide) (Nat.mul_le_mul_left 40 hd)) k1 rfl mw_162 mw_163 mw_164 mw_2 mw_165 hyX0_at (As := [.int v1]) (rest := []) rfl rfl (Nat.le_of_ble_eq_true rfl) dX1_fieldsEndAt_10) (fun r5 u4 h => ?_)
    refine gx_bipush X (v := 10) dX1_fieldsEndAt_13 (by decide) ?_
    refine gx_icmp_ne X (tgt := 22) dX1_fieldsEndAt_15 (by decide) (fun c6 => ?_) (fun c6 => ?_)
    · replace h := h.1 c6
      refine gx_iconst X (v := 0) dX1_fieldsEndAt_22 (by decide) ?_
      exact gx_zret X hQ rfl h dX1_fieldsEndAt_23
    · replace h := h.2 c6
      refine gx_iconst X (v := 1) dX1_fieldsEndAt_18 (by decide) ?_
      refine gx_goto X (tgt := 23) dX1_fieldsEndAt_19 (by decide) ?_
      exact gx_zret X hQ rfl h dX1_fieldsEndAt_23
theorem c_X1_fieldsEndAt {l : Launch} {Z : gx_Z} {u : gx_S} {v0 : Nat} {v1 : Int32} {post : Int32 → gx_S → Prop} (h : S_X1_fieldsEndAt u v0 v1 post) : Met l yX1_fieldsEndAt (Cond.code yX1_fieldsEndAt cX1_fieldsEndAt 2 (some .boolean) :: gx_TB) (gx_rm 1) (gx_Pre Z u [.ref (Z.2.1 v0), .int v1]) (va_Qi post (gx_B Z) (gx_A Z)) 0 0 (gx_A Z) := by
  refine gx_met (by decide +kernel) (Nat.le_of_ble_eq_true rfl) ?_
  intro E X hZ hQ hD hL
  subst hZ
  exact w_X1_fieldsEndAt X (Nat.le_of_eq hD.symm) hQ h
-- PlainSeal$Mail.fieldStop(LPlainSeal$Bytes;I)I
theorem dX1_fieldStop_0 : decode cX1_fieldStop 0 = .ok (.iload_n 1, 1) := by decide +kernel
theorem dX1_fieldStop_1 : decode cX1_fieldStop 1 = .ok (.istore_n 2, 1) := by decide +kernel
theorem dX1_fieldStop_2 : decode cX1_fieldStop 2 = .ok (.iload_n 2, 1) := by decide +kernel
theorem dX1_fieldStop_3 : decode cX1_fieldStop 3 = .ok (.aload_n 0, 1) := by decide +kernel
theorem dX1_fieldStop_4 : decode cX1_fieldStop 4 = .ok (.invokevirtual 45, 3) := by decide +kernel
theorem dX1_fieldStop_7 : decode cX1_fieldStop 7 = .ok (.if_icmp .ge 36, 3) := by decide +kernel
theorem dX1_fieldStop_10 : decode cX1_fieldStop 10 = .ok (.aload_n 0, 1) := by decide +kernel
theorem dX1_fieldStop_11 : decode cX1_fieldStop 11 = .ok (.iload_n 2, 1) := by decide +kernel
theorem dX1_fieldStop_12 : decode cX1_fieldStop 12 = .ok (.invokevirtual 49, 3) := by decide +kernel
theorem dX1_fieldStop_15 : decode cX1_fieldStop 15 = .ok (.bipush 10, 2) := by decide +kernel
theorem dX1_fieldStop_17 : decode cX1_fieldStop 17 = .ok (.if_icmp .ne 20, 3) := by decide +kernel
theorem dX1_fieldStop_20 : decode cX1_fieldStop 20 = .ok (.aload_n 0, 1) := by decide +kernel
theorem dX1_fieldStop_21 : decode cX1_fieldStop 21 = .ok (.iload_n 2, 1) := by decide +kernel
theorem dX1_fieldStop_22 : decode cX1_fieldStop 22 = .ok (.iconst 1, 1) := by decide +kernel
theorem dX1_fieldStop_23 : decode cX1_fieldStop 23 = .ok (.iadd, 1) := by decide +kernel
theorem dX1_fieldStop_24 : decode cX1_fieldStop 24 = .ok (.invokevirtual 49, 3) := by decide +kernel
theorem dX1_fieldStop_27 : decode cX1_fieldStop 27 = .ok (.invokestatic 66, 3) := by decide +kernel
theorem dX1_fieldStop_30 : decode cX1_fieldStop 30 = .ok (.ifCond .ne 7, 3) := by decide +kernel
theorem dX1_fieldStop_33 : decode cX1_fieldStop 33 = .ok (.iload_n 2, 1) := by decide +kernel
theorem dX1_fieldStop_34 : decode cX1_fieldStop 34 = .ok (.iconst 1, 1) := by decide +kernel
theorem dX1_fieldStop_35 : decode cX1_fieldStop 35 = .ok (.iadd, 1) := by decide +kernel
theorem dX1_fieldStop_36 : decode cX1_fieldStop 36 = .ok (.ireturn, 1) := by decide +kernel
theorem dX1_fieldStop_37 : decode cX1_fieldStop 37 = .ok (.iinc 2 1, 3) := by decide +kernel
theorem dX1_fieldStop_40 : decode cX1_fieldStop 40 = .ok (.goto (-38), 3) := by decide +kernel
theorem dX1_fieldStop_43 : decode cX1_fieldStop 43 = .ok (.aload_n 0, 1) := by decide +kernel
theorem dX1_fieldStop_44 : decode cX1_fieldStop 44 = .ok (.invokevirtual 45, 3) := by decide +kernel
theorem dX1_fieldStop_47 : decode cX1_fieldStop 47 = .ok (.ireturn, 1) := by decide +kernel
theorem hyX1_fieldStop : yX1_fieldStop.cls ≠ "java/lang/invoke/MethodHandle" ∧ yX1_fieldStop.cls ≠ "java/lang/invoke/VarHandle" ∧ (parseMethodDescriptor yX1_fieldStop.desc).map (fun d => d.parameters.length) = some 2 := by decide +kernel
abbrev J_X1_fieldStop_2 (E : gx_E) (v0 : Nat) (v1 : Int32) (v2 : Int32) (u : gx_S) : Prop := gx_Wc E 3 2 [(0, .ref (ex_ad E v0)), (1, .int v1), (2, .int v2)] [] u
set_option maxHeartbeats 4000000 in
set_option maxRecDepth 100000 in
theorem w_X1_fieldStop_0 {E : gx_E} (X : gx_X E cX1_fieldStop 3 RX1 (some .int)) (hd : 1 ≤ ex_d E) {post : Int32 → gx_S → Prop} (hQ : ex_Q E = va_Qi post (gx_B (ex_Z E)) (gx_A (ex_Z E))) {u : gx_S} {v0 : Nat} {v1 : Int32} (h : J_X1_fieldStop_2 E v0 v1 v1 u) : gx_Wc E 3 0 [(0, .ref (ex_ad E v0)), (1, .int v1)] [] u := by
  refine gx_iload_n X (j := 1) dX1_fieldStop_0 rfl rfl ?_
  refine gx_istore_n X (lv' := [(2, .int v1), (0, .ref (ex_ad E v0)), (1, .int v1)]) dX1_fieldStop_1 rfl (by decide) rfl ?_
  exact gx_sub [1, 2, 0] rfl h
set_option maxHeartbeats 4000000 in
set_option maxRecDepth 100000 in
theorem w_X1_fieldStop_2 {E : gx_E} (X : gx_X E cX1_fieldStop 3 RX1 (some .int)) (hd : 1 ≤ ex_d E) {post : Int32 → gx_S → Prop} (hQ : ex_Q E = va_Qi post (gx_B (ex_Z E)) (gx_A (ex_Z E))) {u : gx_S} {v0 : Nat} {v1 : Int32} {v2 : Int32} (h : (gx_isO v0 0 ∧ S_X0_size u v0 (fun (r3 : Int32) (u2 : gx_S) => ((r3 ≤ v2 → (S_X0_size u2 v0 (fun (r5 : Int32) (u4 : gx_S) => post r5 u4))) ∧ (¬ r3 ≤ v2 → (S_X0_at u2 v0 v2 (fun (r7 : Int32) (u6 : gx_S) => ((¬ r7 = (10 : Int32) → (∀ x8 : Int32, x8 = v2 + 1 → J_X1_fieldStop_2 E v0 v1 x8 u6)) ∧ (r7 = (10 : Int32) → (S_X0_at u6 v0 (v2 + (1 : Int32)) (fun (r10 : Int32) (u9 : gx_S) => (S_X6_isWhite u9 r10 (fun (r12 : Int32) (u11 : gx_S) => ((¬ r12 = 0 → (∀ x13 : Int32, x13 = v2 + 1 → J_X1_fieldStop_2 E v0 v1 x13 u11)) ∧ (r12 = 0 → post (v2 + (1 : Int32)) u11))))))))))))))) : gx_Wc E 3 2 [(0, .ref (ex_ad E v0)), (1, .int v1), (2, .int v2)] [] u := by
  refine gx_iload_n X (j := 2) dX1_fieldStop_2 rfl rfl ?_
  refine gx_aload_n X (j := 0) dX1_fieldStop_3 rfl rfl ?_
  obtain ⟨k1, h⟩ := h
  refine gx_ki (gx_rV X (c_X0_size h) (Nat.le_trans (by decide) hd) (Nat.le_trans (by decide) (Nat.mul_le_mul_left 40 hd)) k1 rfl mw_161 mw_128 mw_129 mw_2 mw_130 hyX0_size (As := []) (rest := [.int v2]) rfl rfl (Nat.le_of_ble_eq_true rfl) dX1_fieldStop_4) (fun r3 u2 h => ?_)
  refine gx_icmp_ge X (tgt := 43) dX1_fieldStop_7 (by decide) (fun c16 => ?_) (fun c16 => ?_)
  · replace h := h.1 c16
    refine gx_aload_n X (j := 0) dX1_fieldStop_43 rfl rfl ?_
    refine gx_ki (gx_rV X (c_X0_size h) (Nat.le_trans (by decide) hd) (Nat.le_trans (by decide) (Nat.mul_le_mul_left 40 hd)) k1 rfl mw_161 mw_128 mw_129 mw_2 mw_130 hyX0_size (As := []) (rest := []) rfl rfl (Nat.le_of_ble_eq_true rfl) dX1_fieldStop_44) (fun r5 u4 h => ?_)
    exact gx_iret X hQ h dX1_fieldStop_47
  · replace h := h.2 c16
    refine gx_aload_n X (j := 0) dX1_fieldStop_10 rfl rfl ?_
    refine gx_iload_n X (j := 2) dX1_fieldStop_11 rfl rfl ?_
    refine gx_ki (gx_rV X (c_X0_at h) (Nat.le_trans (by decide) hd) (Nat.le_trans (by decide) (Nat.mul_le_mul_left 40 hd)) k1 rfl mw_162 mw_163 mw_164 mw_2 mw_165 hyX0_at (As := [.int v2]) (rest := []) rfl rfl (Nat.le_of_ble_eq_true rfl) dX1_fieldStop_12) (fun r7 u6 h => ?_)
    refine gx_bipush X (v := 10) dX1_fieldStop_15 (by decide) ?_
    refine gx_icmp_ne X (tgt := 37) dX1_fieldStop_17 (by decide) (fun c15 => ?_) (fun c15 => ?_)
    · replace h := h.1 c15
      obtain ⟨x8, ex8⟩ : ∃ y : Int32, y = v2 + 1 := ⟨_, rfl⟩
      replace h := h x8 ex8
      refine gx_iinc X (v := x8) (lv' := [(2, .int x8), (0, .ref (ex_ad E v0)), (1, .int v1)]) dX1_fieldStop_37 (j := 2) rfl (by rw [ex8]; rfl) (by decide) rfl ?_
      refine gx_goto X (tgt := 2) dX1_fieldStop_40 (by decide) ?_
      exact gx_sub [1, 2, 0] rfl h
    · replace h := h.2 c15
      refine gx_aload_n X (j := 0) dX1_fieldStop_20 rfl rfl ?_
      refine gx_iload_n X (j := 2) dX1_fieldStop_21 rfl rfl ?_
      refine gx_iconst X (v := 1) dX1_fieldStop_22 (by decide) ?_
      refine gx_iadd X dX1_fieldStop_23 ?_
      refine gx_ki (gx_rV X (c_X0_at h) (Nat.le_trans (by decide) hd) (Nat.le_trans (by decide) (Nat.mul_le_mul_left 40 hd)) k1 rfl mw_162 mw_163 mw_164 mw_2 mw_165 hyX0_at (As := [.int (v2 + (1 : Int32))]) (rest := []) rfl rfl (Nat.le_of_ble_eq_true rfl) dX1_fieldStop_24) (fun r10 u9 h => ?_)
      refine gx_ki (gx_rSN X (c_X6_isWhite h) (Nat.le_trans (by decide) hd) (Nat.le_trans (by decide) (Nat.mul_le_mul_left 40 hd)) mn_3 mw_185 mw_1 mw_186 hyX6_isWhite (As := [.int r10]) (rest := []) rfl rfl (Nat.le_of_ble_eq_true rfl) dX1_fieldStop_27) (fun r12 u11 h => ?_)
      refine gx_if_ne X (tgt := 37) dX1_fieldStop_30 (by decide) (fun c14 => ?_) (fun c14 => ?_)
      · replace h := h.1 c14
        obtain ⟨x13, ex13⟩ : ∃ y : Int32, y = v2 + 1 := ⟨_, rfl⟩
        replace h := h x13 ex13
        refine gx_iinc X (v := x13) (lv' := [(2, .int x13), (0, .ref (ex_ad E v0)), (1, .int v1)]) dX1_fieldStop_37 (j := 2) rfl (by rw [ex13]; rfl) (by decide) rfl ?_
        refine gx_goto X (tgt := 2) dX1_fieldStop_40 (by decide) ?_
        exact gx_sub [1, 2, 0] rfl h
      · replace h := h.2 c14
        refine gx_iload_n X (j := 2) dX1_fieldStop_33 rfl rfl ?_
        refine gx_iconst X (v := 1) dX1_fieldStop_34 (by decide) ?_
        refine gx_iadd X dX1_fieldStop_35 ?_
        exact gx_iret X hQ h dX1_fieldStop_36
theorem i_X0_become {u : gx_S} {o p : Nat} {L M : List Nat} {post : gx_S → Prop} (hB : byL u o L) (hM : byL u p M) (hne : p ≠ o) (hr : gx_r u p 0 ≠ gx_r u o 0) (h : byU u o M post) : S_X0_become u o p post := by
  refine ⟨hB.1, i_X0_clear hB (fun f hf => ⟨hM.1, ?_⟩)⟩
  refine ⟨[], M, 0, M.length, byL_W hB hf (by simp), byL_ne hM hne hr, hne, hr, nI_0.symm, (byL_ne hM hne hr).2.2.2.1, by omega, Nat.le_refl _, ?_, byU_W ?_⟩
  · have := hM.2.2.2.2.1
    simp; omega
  · simpa using h
theorem gx_pa_self (u : gx_S) (a : Nat) : gx_pa u a (gx_a u a) = u := by
  refine gx_ext (fun _ _ => rfl) (fun _ _ => rfl) (fun _ _ => rfl) (fun b => ?_)
  rw [gx_a_pa]; split
  · rename_i e; rw [e]
  · rfl
theorem gx_pa_pa (u : gx_S) (a : Nat) (f g : Nat → Int32) : gx_pa (gx_pa u a f) a g = gx_pa u a g := by
  refine gx_ext (fun _ _ => rfl) (fun _ _ => rfl) (fun _ _ => rfl) (fun b => ?_)
  rw [gx_a_pa, gx_a_pa, gx_a_pa]; split <;> rfl
theorem byL_pa {u : gx_S} {o a : Nat} {M : List Nat} {f : Nat → Int32} (h : byL u o M) (ha : gx_r u o 0 ≠ a) : byL (gx_pa u a f) o M :=
  ⟨h.1, h.2.1, h.2.2.1, h.2.2.2.1, h.2.2.2.2.1, by rw [gx_a_pa, gx_r_pa, if_neg ha]; exact h.2.2.2.2.2⟩
theorem byL_pi {u : gx_S} {o p k : Nat} {M : List Nat} {x : Int32} (h : byL u o M) (hp : ¬ (o = p ∧ 1 = k)) : byL (gx_pi u p k x) o M :=
  ⟨h.1, h.2.1, h.2.2.1, by rw [gx_i_pi, if_neg hp]; exact h.2.2.2.1, h.2.2.2.2.1, h.2.2.2.2.2⟩
def isN (c : Nat) : Bool := isS c || isG c || isD c || c == 45
theorem b2_n0 {b : Bool} (h : ¬ b2 b = 0) : b = true := by cases b <;> simp_all [b2]
theorem i_X1_isOfName {u : gx_S} {c : Nat} {post : Int32 → gx_S → Prop} (hc : c < 256 ∨ c = 999) (h : post (b2 (isN c)) u) : S_X1_isOfName u (cI c) post := by
  unfold isN at h
  refine i_X6_isSmallLetter ⟨fun q => ?_, fun q => i_X6_isGreatLetter ⟨fun q2 => ?_, fun q2 => i_X6_isDigit ⟨fun q3 => ?_, fun q3 => ⟨fun q4 => ?_, fun q4 => ?_⟩⟩ hc⟩ hc⟩ hc
  · rw [b2_n0 q] at h; exact h
  · rw [b2_n0 q2] at h; rw [Bool.or_true] at h; exact h
  · rw [b2_n0 q3] at h; rw [Bool.or_true] at h; exact h
  · rw [b2_0] at q q2 q3
    have q5 : ¬ c = 45 := fun e => q4 ((cI_eq (k := 45) (by omega)).mpr e)
    rw [q, q2, q3, show (c == 45) = false by simpa using q5] at h; exact h
  · have q5 : c = 45 := (cI_eq (k := 45) (by omega)).mp q4
    rw [show (c == 45) = true by simpa using q5, Bool.or_true] at h; exact h
/-- how many bytes from i on are of a kind, at most so many -/
def runF (p : Nat → Bool) (L : List Nat) : Nat → Nat → Nat
  | 0, _ => 0
  | k + 1, i => if p (ch L i) then runF p L k (i + 1) + 1 else 0
theorem runF_le (p : Nat → Bool) (L : List Nat) : ∀ k i, runF p L k i ≤ k
  | 0, _ => Nat.le_refl _
  | k + 1, i => by
    unfold runF
    split
    · have := runF_le p L k (i + 1); omega
    · omega
def nameLen (L : List Nat) (i : Nat) : Nat := if ch L (i + runF isN L 20 i) = 58 then runF isN L 20 i else 0
theorem nameLen_le (L : List Nat) (i : Nat) : nameLen L i ≤ 20 := by
  unfold nameLen
  have := runF_le isN L 20 i
  split <;> omega
def S_X1_nameLength (u : gx_S) (v0 : Nat) (v1 : Int32) (post : Int32 → gx_S → Prop) : Prop := ∃ (M : List Nat) (i : Nat), byL u v0 M ∧ i < 2 ^ 30 ∧ v1 = nI i ∧ post (nI (nameLen M i)) u
theorem nl_end {u : gx_S} {v0 i k : Nat} {M : List Nat} {post : Int32 → gx_S → Prop} (hM : byL u v0 M) (hi : i < 2 ^ 30) (hk : k ≤ 20) (hr : runF isN M 20 i = k) (hp : post (nI (nameLen M i)) u) : S_X0_at u v0 (nI i + nI k) (fun (r3 : Int32) (u2 : gx_S) => ((¬ r3 = (58 : Int32) → post (0 : Int32) u2) ∧ (r3 = (58 : Int32) → post (nI k) u2))) := by
  rw [nI_add]
  unfold nameLen at hp
  rw [hr] at hp
  refine i_X0_at hM (by omega) ⟨fun q => ?_, fun q => ?_⟩
  · rw [if_neg (fun e => q ((cI_eq (k := 58) (by omega)).mpr e))] at hp; exact hp
  · rw [if_pos ((cI_eq (k := 58) (by omega)).mp q)] at hp; exact hp
theorem lp_X1_nameLength {E : gx_E} (X : gx_X E cX1_nameLength 3 RX1 (some .int)) (hd : 2 ≤ ex_d E) {post : Int32 → gx_S → Prop} (hQ : ex_Q E = va_Qi post (gx_B (ex_Z E)) (gx_A (ex_Z E))) {v0 i : Nat} {M : List Nat} {u : gx_S} (hM : byL u v0 M) (hi : i < 2 ^ 30) (hp : post (nI (nameLen M i)) u) :
    ∀ (n k : Nat), 20 - k = n → k ≤ 20 → runF isN M 20 i = k + runF isN M n (i + k) → J_X1_nameLength_2 E v0 (nI i) (nI k) u := by
  intro n
  induction n with
  | zero =>
    intro k hn hk hr
    refine w_X1_nameLength_2 X hd hQ ⟨fun _ => ⟨hM.1, nl_end hM hi hk hr hp⟩, fun q => absurd (nI_le (a := 20) (by omega) (by omega)) q⟩
  | succ n ih =>
    intro k hn hk hr
    refine w_X1_nameLength_2 X hd hQ ⟨fun q => absurd q (nI_ge (b := 20) (by omega) (by omega)), fun _ => ⟨hM.1, ?_⟩⟩
    rw [nI_add]
    refine i_X0_at hM (by omega) (i_X1_isOfName (ch_alt hM.2.2.2.2.2.1 _) ⟨fun q => ?_, fun q => ?_⟩)
    · rw [b2_0] at q
      unfold runF at hr
      rw [q] at hr
      have := nl_end hM hi hk hr hp
      rwa [nI_add] at this
    · have q2 := b2_n0 q
      rintro x13 rfl
      rw [nI_1]
      have e : runF isN M (n + 1) (i + k) = runF isN M n (i + k + 1) + 1 := by rw [runF, if_pos q2]
      exact ih (k + 1) (by omega) (by omega) (by rw [hr, e]; rw [show i + k + 1 = i + (k + 1) by omega]; omega)
theorem w_X1_nameLength {E : gx_E} (X : gx_X E cX1_nameLength 3 RX1 (some .int)) (hd : 2 ≤ ex_d E) {post : Int32 → gx_S → Prop} (hQ : ex_Q E = va_Qi post (gx_B (ex_Z E)) (gx_A (ex_Z E))) {u : gx_S} {v0 : Nat} {v1 : Int32} (h : S_X1_nameLength u v0 v1 post) : gx_Wc E 3 0 [(0, .ref (ex_ad E v0)), (1, .int v1)] [] u := by
  obtain ⟨M, i, hM, hi, rfl, hp⟩ := h
  exact w_X1_nameLength_0 X hd hQ (lp_X1_nameLength X hd hQ hM hi hp 20 0 (by omega) (by omega) (by simp))
theorem c_X1_nameLength {l : Launch} {Z : gx_Z} {u : gx_S} {v0 : Nat} {v1 : Int32} {post : Int32 → gx_S → Prop} (h : S_X1_nameLength u v0 v1 post) : Met l yX1_nameLength (Cond.code yX1_nameLength cX1_nameLength 3 (some .int) :: gx_TB) (gx_rm 2) (gx_Pre Z u [.ref (Z.2.1 v0), .int v1]) (va_Qi post (gx_B Z) (gx_A Z)) 0 0 (gx_A Z) := by
  refine gx_met (by decide +kernel) (Nat.le_of_ble_eq_true rfl) ?_
  intro E X hZ hQ hD hL
  subst hZ
  exact w_X1_nameLength X (Nat.le_of_eq hD.symm) hQ h
def fend (M : List Nat) (i : Nat) : Bool := decide (M.length ≤ i) || ch M i == 10
theorem i_X1_fieldsEndAt {u : gx_S} {v0 i : Nat} {M : List Nat} {post : Int32 → gx_S → Prop} (hM : byL u v0 M) (hi : i < 2 ^ 30) (h : post (b2 (fend M i)) u) : S_X1_fieldsEndAt u v0 (nI i) post := by
  have hM2 := hM.2.2.2.2.1
  unfold fend at h
  refine ⟨hM.1, i_X0_size hM ⟨fun q => ?_, fun q => i_X0_at hM (by omega) ⟨fun q2 => ?_, fun q2 => ?_⟩⟩⟩
  · rw [nI_leI (by omega) (by omega)] at q
    rw [show decide (M.length ≤ i) = true by simpa using q] at h; exact h
  · rw [nI_leI (by omega) (by omega)] at q
    rw [show decide (M.length ≤ i) = false by simpa using q, show (ch M i == 10) = false by simpa using (fun e => q2 ((cI_eq (k := 10) (by omega)).mpr e))] at h; exact h
  · rw [show (ch M i == 10) = true by simpa using ((cI_eq (k := 10) (by omega)).mp q2), Bool.or_true] at h; exact h
def fstF (M : List Nat) : Nat → Nat → Nat
  | 0, _ => M.length
  | k + 1, i => if ch M i = 10 ∧ isW (ch M (i + 1)) = false then i + 1 else fstF M k (i + 1)
/-- where the field ends that goes on at i -/
def fst_ (M : List Nat) (i : Nat) : Nat := fstF M (M.length - i) i
theorem fstF_le (M : List Nat) : ∀ k i, k = M.length - i → fstF M k i ≤ M.length
  | 0, _, _ => Nat.le_refl _
  | k + 1, i, h => by
    unfold fstF
    split
    · omega
    · exact fstF_le M k (i + 1) (by omega)
theorem fst_le (M : List Nat) (i : Nat) : fst_ M i ≤ M.length := fstF_le M _ i rfl
def S_X1_fieldStop (u : gx_S) (v0 : Nat) (v1 : Int32) (post : Int32 → gx_S → Prop) : Prop := ∃ (M : List Nat) (i : Nat), byL u v0 M ∧ i < 2 ^ 30 ∧ v1 = nI i ∧ post (nI (fst_ M i)) u
theorem lp_X1_fieldStop {E : gx_E} (X : gx_X E cX1_fieldStop 3 RX1 (some .int)) (hd : 1 ≤ ex_d E) {post : Int32 → gx_S → Prop} (hQ : ex_Q E = va_Qi post (gx_B (ex_Z E)) (gx_A (ex_Z E))) {v0 : Nat} {v1 : Int32} {M : List Nat} {u : gx_S} (hM : byL u v0 M) :
    ∀ (n i : Nat), M.length - i = n → i < 2 ^ 30 → post (nI (fstF M n i)) u → J_X1_fieldStop_2 E v0 v1 (nI i) u := by
  have hM2 := hM.2.2.2.2.1
  intro n
  induction n with
  | zero =>
    intro i hn hi hp
    refine w_X1_fieldStop_2 X hd hQ ⟨hM.1, i_X0_size hM ⟨fun _ => i_X0_size hM hp, fun q => absurd (nI_le (by omega) (by omega)) q⟩⟩
  | succ n ih =>
    intro i hn hi hp
    unfold fstF at hp
    refine w_X1_fieldStop_2 X hd hQ ⟨hM.1, i_X0_size hM ⟨fun q => absurd q (nI_ge (by omega) (by omega)), fun _ => i_X0_at hM (by omega) ⟨fun q => ?_, fun q => ?_⟩⟩⟩
    · rintro x8 rfl
      rw [nI_1]
      rw [if_neg (fun e => q ((cI_eq (k := 10) (by omega)).mpr e.1))] at hp
      exact ih (i + 1) (by omega) (by omega) hp
    · have q1 : ch M i = 10 := (cI_eq (k := 10) (by omega)).mp q
      rw [nI_1]
      refine i_X0_at hM (by omega) (i_X6_isWhite ⟨fun q2 => ?_, fun q2 => ?_⟩)
      · rintro x13 rfl
        rw [if_neg (fun e => by rw [b2_n0 q2] at e; exact absurd e.2 (by decide))] at hp
        exact ih (i + 1) (by omega) (by omega) hp
      · rw [b2_0] at q2
        rw [if_pos ⟨q1, q2⟩] at hp
        exact hp
theorem w_X1_fieldStop {E : gx_E} (X : gx_X E cX1_fieldStop 3 RX1 (some .int)) (hd : 1 ≤ ex_d E) {post : Int32 → gx_S → Prop} (hQ : ex_Q E = va_Qi post (gx_B (ex_Z E)) (gx_A (ex_Z E))) {u : gx_S} {v0 : Nat} {v1 : Int32} (h : S_X1_fieldStop u v0 v1 post) : gx_Wc E 3 0 [(0, .ref (ex_ad E v0)), (1, .int v1)] [] u := by
  obtain ⟨M, i, hM, hi, rfl, hp⟩ := h
  exact w_X1_fieldStop_0 X hd hQ (lp_X1_fieldStop X hd hQ hM (M.length - i) i rfl hi hp)
theorem c_X1_fieldStop {l : Launch} {Z : gx_Z} {u : gx_S} {v0 : Nat} {v1 : Int32} {post : Int32 → gx_S → Prop} (h : S_X1_fieldStop u v0 v1 post) : Met l yX1_fieldStop (Cond.code yX1_fieldStop cX1_fieldStop 3 (some .int) :: gx_TB) (gx_rm 1) (gx_Pre Z u [.ref (Z.2.1 v0), .int v1]) (va_Qi post (gx_B Z) (gx_A Z)) 0 0 (gx_A Z) := by
  refine gx_met (by decide +kernel) (Nat.le_of_ble_eq_true rfl) ?_
  intro E X hZ hQ hD hL
  subst hZ
  exact w_X1_fieldStop X (Nat.le_of_eq hD.symm) hQ h
-- PlainSeal$Mail.countFields(LPlainSeal$Bytes;)I
theorem dX1_countFields_0 : decode cX1_countFields 0 = .ok (.iconst 0, 1) := by decide +kernel
theorem dX1_countFields_1 : decode cX1_countFields 1 = .ok (.istore_n 1, 1) := by decide +kernel
theorem dX1_countFields_2 : decode cX1_countFields 2 = .ok (.iconst 0, 1) := by decide +kernel
theorem dX1_countFields_3 : decode cX1_countFields 3 = .ok (.istore_n 2, 1) := by decide +kernel
theorem dX1_countFields_4 : decode cX1_countFields 4 = .ok (.iload_n 2, 1) := by decide +kernel
theorem dX1_countFields_5 : decode cX1_countFields 5 = .ok (.bipush 20, 2) := by decide +kernel
theorem dX1_countFields_7 : decode cX1_countFields 7 = .ok (.if_icmp .gt 35, 3) := by decide +kernel
theorem dX1_countFields_10 : decode cX1_countFields 10 = .ok (.aload_n 0, 1) := by decide +kernel
theorem dX1_countFields_11 : decode cX1_countFields 11 = .ok (.iload_n 1, 1) := by decide +kernel
theorem dX1_countFields_12 : decode cX1_countFields 12 = .ok (.invokestatic 38, 3) := by decide +kernel
theorem dX1_countFields_15 : decode cX1_countFields 15 = .ok (.ifCond .eq 5, 3) := by decide +kernel
theorem dX1_countFields_18 : decode cX1_countFields 18 = .ok (.iload_n 2, 1) := by decide +kernel
theorem dX1_countFields_19 : decode cX1_countFields 19 = .ok (.ireturn, 1) := by decide +kernel
theorem dX1_countFields_20 : decode cX1_countFields 20 = .ok (.aload_n 0, 1) := by decide +kernel
theorem dX1_countFields_21 : decode cX1_countFields 21 = .ok (.iload_n 1, 1) := by decide +kernel
theorem dX1_countFields_22 : decode cX1_countFields 22 = .ok (.invokestatic 42, 3) := by decide +kernel
theorem dX1_countFields_25 : decode cX1_countFields 25 = .ok (.ifCond .ne 5, 3) := by decide +kernel
theorem dX1_countFields_28 : decode cX1_countFields 28 = .ok (.iconst 0, 1) := by decide +kernel
theorem dX1_countFields_29 : decode cX1_countFields 29 = .ok (.ireturn, 1) := by decide +kernel
theorem dX1_countFields_30 : decode cX1_countFields 30 = .ok (.aload_n 0, 1) := by decide +kernel
theorem dX1_countFields_31 : decode cX1_countFields 31 = .ok (.iload_n 1, 1) := by decide +kernel
theorem dX1_countFields_32 : decode cX1_countFields 32 = .ok (.invokestatic 34, 3) := by decide +kernel
theorem dX1_countFields_35 : decode cX1_countFields 35 = .ok (.istore_n 1, 1) := by decide +kernel
theorem dX1_countFields_36 : decode cX1_countFields 36 = .ok (.iinc 2 1, 3) := by decide +kernel
theorem dX1_countFields_39 : decode cX1_countFields 39 = .ok (.goto (-35), 3) := by decide +kernel
theorem dX1_countFields_42 : decode cX1_countFields 42 = .ok (.iconst 0, 1) := by decide +kernel
theorem dX1_countFields_43 : decode cX1_countFields 43 = .ok (.ireturn, 1) := by decide +kernel
theorem hyX1_countFields : yX1_countFields.cls ≠ "java/lang/invoke/MethodHandle" ∧ yX1_countFields.cls ≠ "java/lang/invoke/VarHandle" ∧ (parseMethodDescriptor yX1_countFields.desc).map (fun d => d.parameters.length) = some 1 := by decide +kernel
abbrev J_X1_countFields_4 (E : gx_E) (v0 : Nat) (v1 : Int32) (v2 : Int32) (u : gx_S) : Prop := gx_Wc E 3 4 [(0, .ref (ex_ad E v0)), (1, .int v1), (2, .int v2)] [] u
set_option maxHeartbeats 4000000 in
set_option maxRecDepth 100000 in
theorem w_X1_countFields_0 {E : gx_E} (X : gx_X E cX1_countFields 3 RX1 (some .int)) (hd : 3 ≤ ex_d E) {post : Int32 → gx_S → Prop} (hQ : ex_Q E = va_Qi post (gx_B (ex_Z E)) (gx_A (ex_Z E))) {u : gx_S} {v0 : Nat} (h : J_X1_countFields_4 E v0 (0 : Int32) (0 : Int32) u) : gx_Wc E 3 0 [(0, .ref (ex_ad E v0))] [] u := by
  refine gx_iconst X (v := 0) dX1_countFields_0 (by decide) ?_
  refine gx_istore_n X (lv' := [(1, .int (0 : Int32)), (0, .ref (ex_ad E v0))]) dX1_countFields_1 rfl (by decide) rfl ?_
  refine gx_iconst X (v := 0) dX1_countFields_2 (by decide) ?_
  refine gx_istore_n X (lv' := [(2, .int (0 : Int32)), (1, .int (0 : Int32)), (0, .ref (ex_ad E v0))]) dX1_countFields_3 rfl (by decide) rfl ?_
  exact gx_sub [2, 1, 0] rfl h
set_option maxHeartbeats 4000000 in
set_option maxRecDepth 100000 in
theorem w_X1_countFields_4 {E : gx_E} (X : gx_X E cX1_countFields 3 RX1 (some .int)) (hd : 3 ≤ ex_d E) {post : Int32 → gx_S → Prop} (hQ : ex_Q E = va_Qi post (gx_B (ex_Z E)) (gx_A (ex_Z E))) {u : gx_S} {v0 : Nat} {v1 : Int32} {v2 : Int32} (h : (((20 : Int32) < v2 → post (0 : Int32) u) ∧ (¬ (20 : Int32) < v2 → (S_X1_fieldsEndAt u v0 v1 (fun (r2 : Int32) (u1 : gx_S) => ((r2 = 0 → (S_X1_nameLength u1 v0 v1 (fun (r4 : Int32) (u3 : gx_S) => ((¬ r4 = 0 → (S_X1_fieldStop u3 v0 v1 (fun (r6 : Int32) (u5 : gx_S) => (∀ x7 : Int32, x7 = v2 + 1 → J_X1_countFields_4 E v0 r6 x7 u5)))) ∧ (r4 = 0 → post (0 : Int32) u3))))) ∧ (¬ r2 = 0 → post v2 u1))))))) : gx_Wc E 3 4 [(0, .ref (ex_ad E v0)), (1, .int v1), (2, .int v2)] [] u := by
  refine gx_iload_n X (j := 2) dX1_countFields_4 rfl rfl ?_
  refine gx_bipush X (v := 20) dX1_countFields_5 (by decide) ?_
  refine gx_icmp_gt X (tgt := 42) dX1_countFields_7 (by decide) (fun c10 => ?_) (fun c10 => ?_)
  · replace h := h.1 c10
    refine gx_iconst X (v := 0) dX1_countFields_42 (by decide) ?_
    exact gx_iret X hQ h dX1_countFields_43
  · replace h := h.2 c10
    refine gx_aload_n X (j := 0) dX1_countFields_10 rfl rfl ?_
    refine gx_iload_n X (j := 1) dX1_countFields_11 rfl rfl ?_
    refine gx_ki (gx_rS X (c_X1_fieldsEndAt h) (Nat.le_trans (by decide) hd) (Nat.le_trans (by decide) (Nat.mul_le_mul_left 40 hd)) mw_158 mw_159 mw_3 mw_160 hyX1_fieldsEndAt (As := [.ref (ex_ad E v0), .int v1]) (rest := []) rfl rfl (Nat.le_of_ble_eq_true rfl) dX1_countFields_12) (fun r2 u1 h => ?_)
    refine gx_if_eq X (tgt := 20) dX1_countFields_15 (by decide) (fun c9 => ?_) (fun c9 => ?_)
    · replace h := h.1 c9
      refine gx_aload_n X (j := 0) dX1_countFields_20 rfl rfl ?_
      refine gx_iload_n X (j := 1) dX1_countFields_21 rfl rfl ?_
      refine gx_ki (gx_rS X (c_X1_nameLength h) (Nat.le_trans (by decide) hd) (Nat.le_trans (by decide) (Nat.mul_le_mul_left 40 hd)) mw_166 mw_167 mw_3 mw_168 hyX1_nameLength (As := [.ref (ex_ad E v0), .int v1]) (rest := []) rfl rfl (Nat.le_of_ble_eq_true rfl) dX1_countFields_22) (fun r4 u3 h => ?_)
      refine gx_if_ne X (tgt := 30) dX1_countFields_25 (by decide) (fun c8 => ?_) (fun c8 => ?_)
      · replace h := h.1 c8
        refine gx_aload_n X (j := 0) dX1_countFields_30 rfl rfl ?_
        refine gx_iload_n X (j := 1) dX1_countFields_31 rfl rfl ?_
        refine gx_ki (gx_rS X (c_X1_fieldStop h) (Nat.le_trans (by decide) hd) (Nat.le_trans (by decide) (Nat.mul_le_mul_left 40 hd)) mw_181 mw_182 mw_3 mw_183 hyX1_fieldStop (As := [.ref (ex_ad E v0), .int v1]) (rest := []) rfl rfl (Nat.le_of_ble_eq_true rfl) dX1_countFields_32) (fun r6 u5 h => ?_)
        refine gx_istore_n X (lv' := [(1, .int r6), (0, .ref (ex_ad E v0)), (2, .int v2)]) dX1_countFields_35 rfl (by decide) rfl ?_
        obtain ⟨x7, ex7⟩ : ∃ y : Int32, y = v2 + 1 := ⟨_, rfl⟩
        replace h := h x7 ex7
        refine gx_iinc X (v := x7) (lv' := [(2, .int x7), (1, .int r6), (0, .ref (ex_ad E v0))]) dX1_countFields_36 (j := 2) rfl (by rw [ex7]; rfl) (by decide) rfl ?_
        refine gx_goto X (tgt := 4) dX1_countFields_39 (by decide) ?_
        exact gx_sub [2, 1, 0] rfl h
      · replace h := h.2 c8
        refine gx_iconst X (v := 0) dX1_countFields_28 (by decide) ?_
        exact gx_iret X hQ h dX1_countFields_29
    · replace h := h.2 c9
      refine gx_iload_n X (j := 2) dX1_countFields_18 rfl rfl ?_
      exact gx_iret X hQ h dX1_countFields_19
def cntF (M : List Nat) : Nat → Nat → Nat → Nat
  | 0, _, _ => 0
  | k + 1, f, p => if fend M p then f else if nameLen M p = 0 then 0 else cntF M k (f + 1) (fst_ M p)
/-- how many fields a row has; 0: it is no message -/
def cnt (M : List Nat) : Nat := cntF M 21 0 0
theorem cntF_le (M : List Nat) : ∀ k f p, f + k ≤ 21 → cntF M k f p ≤ 20
  | 0, _, _, _ => by simp [cntF]
  | k + 1, f, p, h => by
    unfold cntF
    split
    · omega
    · split
      · omega
      · exact cntF_le M k (f + 1) _ (by omega)
theorem cnt_le (M : List Nat) : cnt M ≤ 20 := cntF_le M 21 0 0 (by omega)
def S_X1_countFields (u : gx_S) (v0 : Nat) (post : Int32 → gx_S → Prop) : Prop := ∃ M : List Nat, byL u v0 M ∧ post (nI (cnt M)) u
theorem lp_X1_countFields {E : gx_E} (X : gx_X E cX1_countFields 3 RX1 (some .int)) (hd : 3 ≤ ex_d E) {post : Int32 → gx_S → Prop} (hQ : ex_Q E = va_Qi post (gx_B (ex_Z E)) (gx_A (ex_Z E))) {v0 : Nat} {M : List Nat} {u : gx_S} (hM : byL u v0 M) :
    ∀ (n f p : Nat), 21 - f = n → f ≤ 21 → p < 2 ^ 30 → post (nI (cntF M n f p)) u → J_X1_countFields_4 E v0 (nI p) (nI f) u := by
  have hM2 := hM.2.2.2.2.1
  intro n
  induction n with
  | zero =>
    intro f p hn hf hp h
    refine w_X1_countFields_4 X hd hQ ⟨fun _ => h, fun q => absurd (nI_lt (a := 20) (by omega) (by omega)) q⟩
  | succ n ih =>
    intro f p hn hf hp h
    unfold cntF at h
    refine w_X1_countFields_4 X hd hQ ⟨fun q => absurd q (nI_nlt (b := f) (a := 20) (by omega) (by omega)), fun _ => i_X1_fieldsEndAt hM hp ⟨fun q => ⟨M, p, hM, hp, rfl, ⟨fun q2 => ?_, fun q2 => ?_⟩⟩, fun q => ?_⟩⟩
    · rw [b2_0] at q
      rw [q] at h
      have q3 : ¬ nameLen M p = 0 := fun e => q2 (by rw [e]; rfl)
      rw [if_neg q3] at h
      refine ⟨M, p, hM, hp, rfl, ?_⟩
      rintro x7 rfl
      rw [nI_1]
      have := fst_le M p
      exact ih (f + 1) (fst_ M p) (by omega) (by omega) (by omega) (by simpa using h)
    · rw [b2_0] at q
      rw [q] at h
      have h20 := nameLen_le M p
      have q3 : nameLen M p = 0 := (nI_eq (b := 0) (by omega) (by omega)).mp q2
      rw [if_pos q3] at h
      exact h
    · rw [b2_n0 q] at h
      exact h
theorem w_X1_countFields {E : gx_E} (X : gx_X E cX1_countFields 3 RX1 (some .int)) (hd : 3 ≤ ex_d E) {post : Int32 → gx_S → Prop} (hQ : ex_Q E = va_Qi post (gx_B (ex_Z E)) (gx_A (ex_Z E))) {u : gx_S} {v0 : Nat} (h : S_X1_countFields u v0 post) : gx_Wc E 3 0 [(0, .ref (ex_ad E v0))] [] u := by
  obtain ⟨M, hM, hp⟩ := h
  exact w_X1_countFields_0 X hd hQ (lp_X1_countFields X hd hQ hM 21 0 0 (by omega) (by omega) (by omega) hp)
theorem c_X1_countFields {l : Launch} {Z : gx_Z} {u : gx_S} {v0 : Nat} {post : Int32 → gx_S → Prop} (h : S_X1_countFields u v0 post) : Met l yX1_countFields (Cond.code yX1_countFields cX1_countFields 3 (some .int) :: gx_TB) (gx_rm 3) (gx_Pre Z u [.ref (Z.2.1 v0)]) (va_Qi post (gx_B Z) (gx_A Z)) 0 0 (gx_A Z) := by
  refine gx_met (by decide +kernel) (Nat.le_of_ble_eq_true rfl) ?_
  intro E X hZ hQ hD hL
  subst hZ
  exact w_X1_countFields X (Nat.le_of_eq hD.symm) hQ h
end
section
-- PlainSeal$Mail.read(LPlainSeal$Bytes;)I
theorem dX1_read_0 : decode cX1_read 0 = .ok (.aload_n 1, 1) := by decide +kernel
theorem dX1_read_1 : decode cX1_read 1 = .ok (.invokestatic 26, 3) := by decide +kernel
theorem dX1_read_4 : decode cX1_read 4 = .ok (.istore_n 2, 1) := by decide +kernel
theorem dX1_read_5 : decode cX1_read 5 = .ok (.iload_n 2, 1) := by decide +kernel
theorem dX1_read_6 : decode cX1_read 6 = .ok (.ifCond .ne 5, 3) := by decide +kernel
theorem dX1_read_9 : decode cX1_read 9 = .ok (.iconst (-1), 1) := by decide +kernel
theorem dX1_read_10 : decode cX1_read 10 = .ok (.ireturn, 1) := by decide +kernel
theorem dX1_read_11 : decode cX1_read 11 = .ok (.aload_n 0, 1) := by decide +kernel
theorem dX1_read_12 : decode cX1_read 12 = .ok (.getfield 12, 3) := by decide +kernel
theorem dX1_read_15 : decode cX1_read 15 = .ok (.aload_n 1, 1) := by decide +kernel
theorem dX1_read_16 : decode cX1_read 16 = .ok (.invokevirtual 30, 3) := by decide +kernel
theorem dX1_read_19 : decode cX1_read 19 = .ok (.aload_n 0, 1) := by decide +kernel
theorem dX1_read_20 : decode cX1_read 20 = .ok (.iload_n 2, 1) := by decide +kernel
theorem dX1_read_21 : decode cX1_read 21 = .ok (.putfield 22, 3) := by decide +kernel
theorem dX1_read_24 : decode cX1_read 24 = .ok (.iconst 0, 1) := by decide +kernel
theorem dX1_read_25 : decode cX1_read 25 = .ok (.istore_n 3, 1) := by decide +kernel
theorem dX1_read_26 : decode cX1_read 26 = .ok (.iload_n 3, 1) := by decide +kernel
theorem dX1_read_27 : decode cX1_read 27 = .ok (.iload_n 2, 1) := by decide +kernel
theorem dX1_read_28 : decode cX1_read 28 = .ok (.if_icmp .ge 30, 3) := by decide +kernel
theorem dX1_read_31 : decode cX1_read 31 = .ok (.aload_n 0, 1) := by decide +kernel
theorem dX1_read_32 : decode cX1_read 32 = .ok (.getfield 18, 3) := by decide +kernel
theorem dX1_read_35 : decode cX1_read 35 = .ok (.iload_n 3, 1) := by decide +kernel
theorem dX1_read_36 : decode cX1_read 36 = .ok (.iconst 1, 1) := by decide +kernel
theorem dX1_read_37 : decode cX1_read 37 = .ok (.iadd, 1) := by decide +kernel
theorem dX1_read_38 : decode cX1_read 38 = .ok (.aload_n 0, 1) := by decide +kernel
theorem dX1_read_39 : decode cX1_read 39 = .ok (.getfield 12, 3) := by decide +kernel
theorem dX1_read_42 : decode cX1_read 42 = .ok (.aload_n 0, 1) := by decide +kernel
theorem dX1_read_43 : decode cX1_read 43 = .ok (.getfield 18, 3) := by decide +kernel
theorem dX1_read_46 : decode cX1_read 46 = .ok (.iload_n 3, 1) := by decide +kernel
theorem dX1_read_47 : decode cX1_read 47 = .ok (.iaload, 1) := by decide +kernel
theorem dX1_read_48 : decode cX1_read 48 = .ok (.invokestatic 34, 3) := by decide +kernel
theorem dX1_read_51 : decode cX1_read 51 = .ok (.iastore, 1) := by decide +kernel
theorem dX1_read_52 : decode cX1_read 52 = .ok (.iinc 3 1, 3) := by decide +kernel
theorem dX1_read_55 : decode cX1_read 55 = .ok (.goto (-29), 3) := by decide +kernel
theorem dX1_read_58 : decode cX1_read 58 = .ok (.iload_n 2, 1) := by decide +kernel
theorem dX1_read_59 : decode cX1_read 59 = .ok (.ireturn, 1) := by decide +kernel
theorem hyX1_read : yX1_read.cls ≠ "java/lang/invoke/MethodHandle" ∧ yX1_read.cls ≠ "java/lang/invoke/VarHandle" ∧ (parseMethodDescriptor yX1_read.desc).map (fun d => d.parameters.length) = some 1 := by decide +kernel
abbrev J_X1_read_26 (E : gx_E) (v0 : Nat) (v1 : Nat) (v2 : Int32) (v3 : Int32) (u : gx_S) : Prop := gx_Wc E 4 26 [(0, .ref (ex_ad E v0)), (1, .ref (ex_ad E v1)), (2, .int v2), (3, .int v3)] [] u
set_option maxHeartbeats 4000000 in
set_option maxRecDepth 100000 in
theorem w_X1_read_0 {E : gx_E} (X : gx_X E cX1_read 4 RX1 (some .int)) (hd : 4 ≤ ex_d E) {post : Int32 → gx_S → Prop} (hQ : ex_Q E = va_Qi post (gx_B (ex_Z E)) (gx_A (ex_Z E))) {u : gx_S} {v0 : Nat} {v1 : Nat} (h : (S_X1_countFields u v1 (fun (r2 : Int32) (u1 : gx_S) => ((¬ r2 = 0 → (gx_isO v0 1 ∧ (gx_isO (gx_r u1 v0 0) 0 ∧ S_X0_become u1 (gx_r u1 v0 0) v1 (fun (u5 : gx_S) => (∀ u6 : gx_S, u6 = gx_pi u5 v0 2 r2 → J_X1_read_26 E v0 v1 r2 (0 : Int32) u6))))) ∧ (r2 = 0 → post (-1 : Int32) u1))))) : gx_Wc E 4 0 [(0, .ref (ex_ad E v0)), (1, .ref (ex_ad E v1))] [] u := by
  refine gx_aload_n X (j := 1) dX1_read_0 rfl rfl ?_
  refine gx_ki (gx_rS X (c_X1_countFields h) (Nat.le_trans (by decide) hd) (Nat.le_trans (by decide) (Nat.mul_le_mul_left 40 hd)) mw_155 mw_156 mw_3 mw_157 hyX1_countFields (As := [.ref (ex_ad E v1)]) (rest := []) rfl rfl (Nat.le_of_ble_eq_true rfl) dX1_read_1) (fun r2 u1 h => ?_)
  refine gx_istore_n X (lv' := [(2, .int r2), (0, .ref (ex_ad E v0)), (1, .ref (ex_ad E v1))]) dX1_read_4 rfl (by decide) rfl ?_
  refine gx_iload_n X (j := 0) dX1_read_5 rfl rfl ?_
  refine gx_if_ne X (tgt := 11) dX1_read_6 (by decide) (fun c7 => ?_) (fun c7 => ?_)
  · replace h := h.1 c7
    refine gx_aload_n X (j := 1) dX1_read_11 rfl rfl ?_
    obtain ⟨k3, h⟩ := h
    refine gx_get X k3 rfl iwX1 0 (by decide) mw_46 (v := .ref (ex_ad E (gx_r u1 v0 0))) rfl dX1_read_12 ?_
    refine gx_aload_n X (j := 2) dX1_read_15 rfl rfl ?_
    obtain ⟨k4, h⟩ := h
    refine gx_kv (gx_rV X (c_X0_become h) (Nat.le_trans (by decide) hd) (Nat.le_trans (by decide) (Nat.mul_le_mul_left 40 hd)) k4 rfl mw_187 mw_188 mw_189 mw_2 mw_190 hyX0_become (As := [.ref (ex_ad E v1)]) (rest := []) rfl rfl (Nat.le_of_ble_eq_true rfl) dX1_read_16) (fun u5 h => ?_)
    refine gx_aload_n X (j := 1) dX1_read_19 rfl rfl ?_
    refine gx_iload_n X (j := 0) dX1_read_20 rfl rfl ?_
    refine gx_put X k3 rfl iwX1 tyX1_ok nmX1 2 (by decide) mw_48 rfl rfl rfl (fun _ => rfl) dX1_read_21 ?_
    refine gx_nams (fun u6 eu6 => ?_)
    replace h := h u6 eu6
    refine gx_iconst X (v := 0) dX1_read_24 (by decide) ?_
    refine gx_istore_n X (lv' := [(3, .int (0 : Int32)), (2, .int r2), (0, .ref (ex_ad E v0)), (1, .ref (ex_ad E v1))]) dX1_read_25 rfl (by decide) rfl ?_
    exact gx_sub [2, 3, 1, 0] rfl h
  · replace h := h.2 c7
    refine gx_iconst X (v := -1) dX1_read_9 (by decide) ?_
    exact gx_iret X hQ h dX1_read_10
set_option maxHeartbeats 4000000 in
set_option maxRecDepth 100000 in
theorem w_X1_read_26 {E : gx_E} (X : gx_X E cX1_read 4 RX1 (some .int)) (hd : 4 ≤ ex_d E) {post : Int32 → gx_S → Prop} (hQ : ex_Q E = va_Qi post (gx_B (ex_Z E)) (gx_A (ex_Z E))) {u : gx_S} {v0 : Nat} {v1 : Nat} {v2 : Int32} {v3 : Int32} (h : ((v2 ≤ v3 → post v2 u) ∧ (¬ v2 ≤ v3 → (gx_isO v0 1 ∧ (gx_isR (gx_r u v0 1) .int ∧ vp_in v3 (gx_len (gx_r u v0 1)) ∧ (S_X1_fieldStop u (gx_r u v0 0) (gx_a u (gx_r u v0 1) v3.toNatClampNeg) (fun (r5 : Int32) (u4 : gx_S) => (gx_isA (gx_r u v0 1) .int ∧ vp_in (v3 + (1 : Int32)) (gx_len (gx_r u v0 1)) ∧ ∀ u8 : gx_S, u8 = gx_pa u4 (gx_r u v0 1) (upd (gx_a u4 (gx_r u v0 1)) (v3 + (1 : Int32)).toNatClampNeg r5) → (∀ x9 : Int32, x9 = v3 + 1 → J_X1_read_26 E v0 v1 v2 x9 u8))))))))) : gx_Wc E 4 26 [(0, .ref (ex_ad E v0)), (1, .ref (ex_ad E v1)), (2, .int v2), (3, .int v3)] [] u := by
  refine gx_iload_n X (j := 3) dX1_read_26 rfl rfl ?_
  refine gx_iload_n X (j := 2) dX1_read_27 rfl rfl ?_
  refine gx_icmp_ge X (tgt := 58) dX1_read_28 (by decide) (fun c10 => ?_) (fun c10 => ?_)
  · replace h := h.1 c10
    refine gx_iload_n X (j := 2) dX1_read_58 rfl rfl ?_
    exact gx_iret X hQ h dX1_read_59
  · replace h := h.2 c10
    refine gx_aload_n X (j := 0) dX1_read_31 rfl rfl ?_
    obtain ⟨k1, h⟩ := h
    refine gx_get X k1 rfl iwX1 1 (by decide) mw_47 (v := .ref (ex_ad E (gx_r u v0 1))) rfl dX1_read_32 ?_
    refine gx_iload_n X (j := 3) dX1_read_35 rfl rfl ?_
    refine gx_iconst X (v := 1) dX1_read_36 (by decide) ?_
    refine gx_iadd X dX1_read_37 ?_
    refine gx_aload_n X (j := 0) dX1_read_38 rfl rfl ?_
    refine gx_get X k1 rfl iwX1 0 (by decide) mw_46 (v := .ref (ex_ad E (gx_r u v0 0))) rfl dX1_read_39 ?_
    refine gx_aload_n X (j := 0) dX1_read_42 rfl rfl ?_
    refine gx_get X k1 rfl iwX1 1 (by decide) mw_47 (v := .ref (ex_ad E (gx_r u v0 1))) rfl dX1_read_43 ?_
    refine gx_iload_n X (j := 3) dX1_read_46 rfl rfl ?_
    obtain ⟨k2, h⟩ := h
    obtain ⟨k3, h⟩ := h
    refine gx_iald X k2 k3 dX1_read_47 ?_
    refine gx_ki (gx_rS X (c_X1_fieldStop h) (Nat.le_trans (by decide) hd) (Nat.le_trans (by decide) (Nat.mul_le_mul_left 40 hd)) mw_181 mw_182 mw_3 mw_183 hyX1_fieldStop (As := [.ref (ex_ad E (gx_r u v0 0)), .int (gx_a u (gx_r u v0 1) v3.toNatClampNeg)]) (rest := [.int (v3 + (1 : Int32)), .ref (ex_ad E (gx_r u v0 1))]) rfl rfl (Nat.le_of_ble_eq_true rfl) dX1_read_48) (fun r5 u4 h => ?_)
    obtain ⟨k6, h⟩ := h
    obtain ⟨k7, h⟩ := h
    refine gx_iast X k6 k7 dX1_read_51 ?_
    refine gx_nams (fun u8 eu8 => ?_)
    replace h := h u8 eu8
    obtain ⟨x9, ex9⟩ : ∃ y : Int32, y = v3 + 1 := ⟨_, rfl⟩
    replace h := h x9 ex9
    refine gx_iinc X (v := x9) (lv' := [(3, .int x9), (0, .ref (ex_ad E v0)), (1, .ref (ex_ad E v1)), (2, .int v2)]) dX1_read_52 (j := 3) rfl (by rw [ex9]; rfl) (by decide) rfl ?_
    refine gx_goto X (tgt := 26) dX1_read_55 (by decide) ?_
    exact gx_sub [1, 2, 3, 0] rfl h
-- PlainSeal$Mail.isNamed(ILPlainSeal$Bytes;)Z
theorem dX1_isNamed_0 : decode cX1_isNamed 0 = .ok (.aload_n 0, 1) := by decide +kernel
theorem dX1_isNamed_1 : decode cX1_isNamed 1 = .ok (.getfield 12, 3) := by decide +kernel
theorem dX1_isNamed_4 : decode cX1_isNamed 4 = .ok (.iload_n 1, 1) := by decide +kernel
theorem dX1_isNamed_5 : decode cX1_isNamed 5 = .ok (.invokestatic 42, 3) := by decide +kernel
theorem dX1_isNamed_8 : decode cX1_isNamed 8 = .ok (.aload_n 2, 1) := by decide +kernel
theorem dX1_isNamed_9 : decode cX1_isNamed 9 = .ok (.invokevirtual 45, 3) := by decide +kernel
theorem dX1_isNamed_12 : decode cX1_isNamed 12 = .ok (.if_icmp .eq 5, 3) := by decide +kernel
theorem dX1_isNamed_15 : decode cX1_isNamed 15 = .ok (.iconst 0, 1) := by decide +kernel
theorem dX1_isNamed_16 : decode cX1_isNamed 16 = .ok (.ireturn, 1) := by decide +kernel
theorem dX1_isNamed_17 : decode cX1_isNamed 17 = .ok (.iconst 0, 1) := by decide +kernel
theorem dX1_isNamed_18 : decode cX1_isNamed 18 = .ok (.istore_n 3, 1) := by decide +kernel
theorem dX1_isNamed_19 : decode cX1_isNamed 19 = .ok (.iload_n 3, 1) := by decide +kernel
theorem dX1_isNamed_20 : decode cX1_isNamed 20 = .ok (.aload_n 2, 1) := by decide +kernel
theorem dX1_isNamed_21 : decode cX1_isNamed 21 = .ok (.invokevirtual 45, 3) := by decide +kernel
theorem dX1_isNamed_24 : decode cX1_isNamed 24 = .ok (.if_icmp .ge 35, 3) := by decide +kernel
theorem dX1_isNamed_27 : decode cX1_isNamed 27 = .ok (.aload_n 0, 1) := by decide +kernel
theorem dX1_isNamed_28 : decode cX1_isNamed 28 = .ok (.getfield 12, 3) := by decide +kernel
theorem dX1_isNamed_31 : decode cX1_isNamed 31 = .ok (.iload_n 1, 1) := by decide +kernel
theorem dX1_isNamed_32 : decode cX1_isNamed 32 = .ok (.iload_n 3, 1) := by decide +kernel
theorem dX1_isNamed_33 : decode cX1_isNamed 33 = .ok (.iadd, 1) := by decide +kernel
theorem dX1_isNamed_34 : decode cX1_isNamed 34 = .ok (.invokevirtual 49, 3) := by decide +kernel
theorem dX1_isNamed_37 : decode cX1_isNamed 37 = .ok (.invokestatic 73, 3) := by decide +kernel
theorem dX1_isNamed_40 : decode cX1_isNamed 40 = .ok (.aload_n 2, 1) := by decide +kernel
theorem dX1_isNamed_41 : decode cX1_isNamed 41 = .ok (.iload_n 3, 1) := by decide +kernel
theorem dX1_isNamed_42 : decode cX1_isNamed 42 = .ok (.invokevirtual 49, 3) := by decide +kernel
theorem dX1_isNamed_45 : decode cX1_isNamed 45 = .ok (.invokestatic 73, 3) := by decide +kernel
theorem dX1_isNamed_48 : decode cX1_isNamed 48 = .ok (.if_icmp .eq 5, 3) := by decide +kernel
theorem dX1_isNamed_51 : decode cX1_isNamed 51 = .ok (.iconst 0, 1) := by decide +kernel
theorem dX1_isNamed_52 : decode cX1_isNamed 52 = .ok (.ireturn, 1) := by decide +kernel
theorem dX1_isNamed_53 : decode cX1_isNamed 53 = .ok (.iinc 3 1, 3) := by decide +kernel
theorem dX1_isNamed_56 : decode cX1_isNamed 56 = .ok (.goto (-37), 3) := by decide +kernel
theorem dX1_isNamed_59 : decode cX1_isNamed 59 = .ok (.iconst 1, 1) := by decide +kernel
theorem dX1_isNamed_60 : decode cX1_isNamed 60 = .ok (.ireturn, 1) := by decide +kernel
theorem hyX1_isNamed : yX1_isNamed.cls ≠ "java/lang/invoke/MethodHandle" ∧ yX1_isNamed.cls ≠ "java/lang/invoke/VarHandle" ∧ (parseMethodDescriptor yX1_isNamed.desc).map (fun d => d.parameters.length) = some 2 := by decide +kernel
abbrev J_X1_isNamed_19 (E : gx_E) (v0 : Nat) (v1 : Int32) (v2 : Nat) (v3 : Int32) (u : gx_S) : Prop := gx_Wc E 4 19 [(0, .ref (ex_ad E v0)), (1, .int v1), (2, .ref (ex_ad E v2)), (3, .int v3)] [] u
set_option maxHeartbeats 4000000 in
set_option maxRecDepth 100000 in
theorem w_X1_isNamed_0 {E : gx_E} (X : gx_X E cX1_isNamed 4 RX1 (some .boolean)) (hd : 3 ≤ ex_d E) {post : Int32 → gx_S → Prop} (hQ : ex_Q E = va_Qi post (gx_B (ex_Z E)) (gx_A (ex_Z E))) {u : gx_S} {v0 : Nat} {v1 : Int32} {v2 : Nat} (h : (gx_isO v0 1 ∧ (S_X1_nameLength u (gx_r u v0 0) v1 (fun (r3 : Int32) (u2 : gx_S) => (gx_isO v2 0 ∧ S_X0_size u2 v2 (fun (r6 : Int32) (u5 : gx_S) => ((r3 = r6 → J_X1_isNamed_19 E v0 v1 v2 (0 : Int32) u5) ∧ (¬ r3 = r6 → post (0 : Int32) u5)))))))) : gx_Wc E 4 0 [(0, .ref (ex_ad E v0)), (1, .int v1), (2, .ref (ex_ad E v2))] [] u := by
  refine gx_aload_n X (j := 0) dX1_isNamed_0 rfl rfl ?_
  obtain ⟨k1, h⟩ := h
  refine gx_get X k1 rfl iwX1 0 (by decide) mw_46 (v := .ref (ex_ad E (gx_r u v0 0))) rfl dX1_isNamed_1 ?_
  refine gx_iload_n X (j := 1) dX1_isNamed_4 rfl rfl ?_
  refine gx_ki (gx_rS X (c_X1_nameLength h) (Nat.le_trans (by decide) hd) (Nat.le_trans (by decide) (Nat.mul_le_mul_left 40 hd)) mw_166 mw_167 mw_3 mw_168 hyX1_nameLength (As := [.ref (ex_ad E (gx_r u v0 0)), .int v1]) (rest := []) rfl rfl (Nat.le_of_ble_eq_true rfl) dX1_isNamed_5) (fun r3 u2 h => ?_)
  refine gx_aload_n X (j := 2) dX1_isNamed_8 rfl rfl ?_
  obtain ⟨k4, h⟩ := h
  refine gx_ki (gx_rV X (c_X0_size h) (Nat.le_trans (by decide) hd) (Nat.le_trans (by decide) (Nat.mul_le_mul_left 40 hd)) k4 rfl mw_161 mw_128 mw_129 mw_2 mw_130 hyX0_size (As := []) (rest := [.int r3]) rfl rfl (Nat.le_of_ble_eq_true rfl) dX1_isNamed_9) (fun r6 u5 h => ?_)
  refine gx_icmp_eq X (tgt := 17) dX1_isNamed_12 (by decide) (fun c7 => ?_) (fun c7 => ?_)
  · replace h := h.1 c7
    refine gx_iconst X (v := 0) dX1_isNamed_17 (by decide) ?_
    refine gx_istore_n X (lv' := [(3, .int (0 : Int32)), (0, .ref (ex_ad E v0)), (1, .int v1), (2, .ref (ex_ad E v2))]) dX1_isNamed_18 rfl (by decide) rfl ?_
    exact gx_sub [1, 2, 3, 0] rfl h
  · replace h := h.2 c7
    refine gx_iconst X (v := 0) dX1_isNamed_15 (by decide) ?_
    exact gx_zret X hQ rfl h dX1_isNamed_16
set_option maxHeartbeats 4000000 in
set_option maxRecDepth 100000 in
theorem w_X1_isNamed_19 {E : gx_E} (X : gx_X E cX1_isNamed 4 RX1 (some .boolean)) (hd : 3 ≤ ex_d E) {post : Int32 → gx_S → Prop} (hQ : ex_Q E = va_Qi post (gx_B (ex_Z E)) (gx_A (ex_Z E))) {u : gx_S} {v0 : Nat} {v1 : Int32} {v2 : Nat} {v3 : Int32} (h : (gx_isO v2 0 ∧ S_X0_size u v2 (fun (r3 : Int32) (u2 : gx_S) => ((r3 ≤ v3 → post (1 : Int32) u2) ∧ (¬ r3 ≤ v3 → (gx_isO v0 1 ∧ (gx_isO (gx_r u2 v0 0) 0 ∧ S_X0_at u2 (gx_r u2 v0 0) (v1 + v3) (fun (r7 : Int32) (u6 : gx_S) => (S_X6_small u6 r7 (fun (r9 : Int32) (u8 : gx_S) => (S_X0_at u8 v2 v3 (fun (r11 : Int32) (u10 : gx_S) => (S_X6_small u10 r11 (fun (r13 : Int32) (u12 : gx_S) => ((r9 = r13 → (∀ x14 : Int32, x14 = v3 + 1 → J_X1_isNamed_19 E v0 v1 v2 x14 u12)) ∧ (¬ r9 = r13 → post (0 : Int32) u12)))))))))))))))) : gx_Wc E 4 19 [(0, .ref (ex_ad E v0)), (1, .int v1), (2, .ref (ex_ad E v2)), (3, .int v3)] [] u := by
  refine gx_iload_n X (j := 3) dX1_isNamed_19 rfl rfl ?_
  refine gx_aload_n X (j := 2) dX1_isNamed_20 rfl rfl ?_
  obtain ⟨k1, h⟩ := h
  refine gx_ki (gx_rV X (c_X0_size h) (Nat.le_trans (by decide) hd) (Nat.le_trans (by decide) (Nat.mul_le_mul_left 40 hd)) k1 rfl mw_161 mw_128 mw_129 mw_2 mw_130 hyX0_size (As := []) (rest := [.int v3]) rfl rfl (Nat.le_of_ble_eq_true rfl) dX1_isNamed_21) (fun r3 u2 h => ?_)
  refine gx_icmp_ge X (tgt := 59) dX1_isNamed_24 (by decide) (fun c16 => ?_) (fun c16 => ?_)
  · replace h := h.1 c16
    refine gx_iconst X (v := 1) dX1_isNamed_59 (by decide) ?_
    exact gx_zret X hQ rfl h dX1_isNamed_60
  · replace h := h.2 c16
    refine gx_aload_n X (j := 0) dX1_isNamed_27 rfl rfl ?_
    obtain ⟨k4, h⟩ := h
    refine gx_get X k4 rfl iwX1 0 (by decide) mw_46 (v := .ref (ex_ad E (gx_r u2 v0 0))) rfl dX1_isNamed_28 ?_
    refine gx_iload_n X (j := 1) dX1_isNamed_31 rfl rfl ?_
    refine gx_iload_n X (j := 3) dX1_isNamed_32 rfl rfl ?_
    refine gx_iadd X dX1_isNamed_33 ?_
    obtain ⟨k5, h⟩ := h
    refine gx_ki (gx_rV X (c_X0_at h) (Nat.le_trans (by decide) hd) (Nat.le_trans (by decide) (Nat.mul_le_mul_left 40 hd)) k5 rfl mw_162 mw_163 mw_164 mw_2 mw_165 hyX0_at (As := [.int (v1 + v3)]) (rest := []) rfl rfl (Nat.le_of_ble_eq_true rfl) dX1_isNamed_34) (fun r7 u6 h => ?_)
    refine gx_ki (gx_rSN X (c_X6_small h) (Nat.le_trans (by decide) hd) (Nat.le_trans (by decide) (Nat.mul_le_mul_left 40 hd)) mn_4 mw_232 mw_1 mw_233 hyX6_small (As := [.int r7]) (rest := []) rfl rfl (Nat.le_of_ble_eq_true rfl) dX1_isNamed_37) (fun r9 u8 h => ?_)
    refine gx_aload_n X (j := 2) dX1_isNamed_40 rfl rfl ?_
    refine gx_iload_n X (j := 3) dX1_isNamed_41 rfl rfl ?_
    refine gx_ki (gx_rV X (c_X0_at h) (Nat.le_trans (by decide) hd) (Nat.le_trans (by decide) (Nat.mul_le_mul_left 40 hd)) k1 rfl mw_162 mw_163 mw_164 mw_2 mw_165 hyX0_at (As := [.int v3]) (rest := [.int r9]) rfl rfl (Nat.le_of_ble_eq_true rfl) dX1_isNamed_42) (fun r11 u10 h => ?_)
    refine gx_ki (gx_rSN X (c_X6_small h) (Nat.le_trans (by decide) hd) (Nat.le_trans (by decide) (Nat.mul_le_mul_left 40 hd)) mn_4 mw_232 mw_1 mw_233 hyX6_small (As := [.int r11]) (rest := [.int r9]) rfl rfl (Nat.le_of_ble_eq_true rfl) dX1_isNamed_45) (fun r13 u12 h => ?_)
    refine gx_icmp_eq X (tgt := 53) dX1_isNamed_48 (by decide) (fun c15 => ?_) (fun c15 => ?_)
    · replace h := h.1 c15
      obtain ⟨x14, ex14⟩ : ∃ y : Int32, y = v3 + 1 := ⟨_, rfl⟩
      replace h := h x14 ex14
      refine gx_iinc X (v := x14) (lv' := [(3, .int x14), (0, .ref (ex_ad E v0)), (1, .int v1), (2, .ref (ex_ad E v2))]) dX1_isNamed_53 (j := 3) rfl (by rw [ex14]; rfl) (by decide) rfl ?_
      refine gx_goto X (tgt := 19) dX1_isNamed_56 (by decide) ?_
      exact gx_sub [1, 2, 3, 0] rfl h
    · replace h := h.2 c15
      refine gx_iconst X (v := 0) dX1_isNamed_51 (by decide) ?_
      exact gx_zret X hQ rfl h dX1_isNamed_52
/-- where the class's references go -/
def rCl : List (List Nat) := [[1, 2, 3, 5, 7, 8], [9], [10], [4, 13], [11], [6], [12], [14, 15, 16], [17, 18, 19, 20]]
def rC (o k : Nat) : Nat := (rCl.getD o []).getD k 0
def cfix (u : gx_S) : Prop := ∀ o k, o < 9 → gx_r u o k = rC o k
theorem isO_x (o ci : Nat) (h : (decide (o < gx_Nw) && (match gx_kd o with | .inr c => c == ci | .inl _ => false)) = true) : gx_isO o ci := by
  simp only [Bool.and_eq_true, decide_eq_true_eq] at h
  refine ⟨h.1, ?_⟩
  have h2 := h.2
  revert h2
  cases gx_kd o with
  | inl q => intro h; cases h
  | inr c => intro h; rw [beq_iff_eq.mp h]
theorem isA_x (a : Nat) (ty : FieldType) (h1 : a < gx_Nw) (h2 : gx_kd a = .inl (gx_len a, ty)) : gx_isA a ty := ⟨h1, h2⟩
/-- the places of the fields -/
def plc (M : List Nat) : Nat → Nat
  | 0 => 0
  | k + 1 => fst_ M (plc M k)
theorem plc_le (M : List Nat) (k : Nat) : plc M k ≤ M.length := by
  cases k with
  | zero => exact Nat.zero_le _
  | succ k => exact fst_le M _
def S_X1_read (u : gx_S) (v0 v1 : Nat) (post : Int32 → gx_S → Prop) : Prop := v0 = 3 ∧ v1 = 1 ∧ cfix u ∧ ∃ T M : List Nat, byL u 1 T ∧ byL u 4 M ∧ gx_a u 13 0 = 0 ∧ (cnt T = 0 → post (-1) u) ∧ (cnt T ≠ 0 → ∀ f g : Nat → Int32, rdb T f → (∀ k, k ≤ cnt T → g k = nI (plc T k)) → post (nI (cnt T)) (gx_pa (gx_pi (byW u 4 f T.length) 3 2 (nI (cnt T))) 13 g))
theorem isA13 : gx_isA 13 .int := ⟨by decide, rfl⟩
theorem lp_X1_read {E : gx_E} (X : gx_X E cX1_read 4 RX1 (some .int)) (hd : 4 ≤ ex_d E) {post : Int32 → gx_S → Prop} (hQ : ex_Q E = va_Qi post (gx_B (ex_Z E)) (gx_A (ex_Z E))) {T : List Nat} :
    ∀ (n k : Nat) (u : gx_S), cnt T - k = n → k ≤ cnt T → cfix u → byL u 4 T → (∀ j, j ≤ k → gx_a u 13 j = nI (plc T j)) → (∀ g : Nat → Int32, (∀ j, j ≤ cnt T → g j = nI (plc T j)) → post (nI (cnt T)) (gx_pa u 13 g)) → J_X1_read_26 E 3 1 (nI (cnt T)) (nI k) u := by
  have h20 := cnt_le T
  intro n
  induction n with
  | zero =>
    intro k u hn hk hf hT hg hp
    refine w_X1_read_26 X hd hQ ⟨fun _ => ?_, fun q => absurd (nI_le (by omega) (by omega)) q⟩
    have := hp (gx_a u 13) (fun j hj => hg j (by omega))
    rwa [gx_pa_self] at this
  | succ n ih =>
    intro k u hn hk hf hT hg hp
    have hT2 := hT.2.2.2.2.1
    have e1 : gx_r u 3 1 = 13 := hf 3 1 (by decide)
    have e0 : gx_r u 3 0 = 4 := hf 3 0 (by decide)
    refine w_X1_read_26 X hd hQ ⟨fun q => absurd q (nI_ge (by omega) (by omega)), fun _ => ?_⟩
    rw [e1, e0]
    refine ⟨isO_x 3 1 (by decide), isA13.r, vp_in_nI (N := 21) (by omega) (by omega), T, plc T k, hT, by have := plc_le T k; omega, ?_, ?_⟩
    · rw [nI_clamp (by omega)]; exact hg k (Nat.le_refl _)
    · refine ⟨isA13, ?_, ?_⟩
      · rw [nI_1]; exact vp_in_nI (N := 21) (by omega) (by omega)
      · rintro u8 rfl x9 rfl
        rw [nI_1, nI_clamp (by omega)]
        refine ih (k + 1) _ (by omega) (by omega) hf (byL_pa hT (by rw [hf 4 0 (by decide)]; decide)) (fun j hj => ?_) (fun g hg2 => ?_)
        · rw [gx_a_pa, if_pos rfl]
          by_cases e : j = k + 1
          · subst e; rw [pk_us]; rfl
          · rw [pk_un e]; exact hg j (by omega)
        · rw [gx_pa_pa]; exact hp g hg2
theorem w_X1_read {E : gx_E} (X : gx_X E cX1_read 4 RX1 (some .int)) (hd : 4 ≤ ex_d E) {post : Int32 → gx_S → Prop} (hQ : ex_Q E = va_Qi post (gx_B (ex_Z E)) (gx_A (ex_Z E))) {u : gx_S} {v0 v1 : Nat} (h : S_X1_read u v0 v1 post) : gx_Wc E 4 0 [(0, .ref (ex_ad E v0)), (1, .ref (ex_ad E v1))] [] u := by
  obtain ⟨rfl, rfl, hf, T, M, hT, hM, h0, hz, hp⟩ := h
  have h20 := cnt_le T
  refine w_X1_read_0 X hd hQ ⟨T, hT, ⟨fun q => ?_, fun q => ?_⟩⟩
  · have hc : cnt T ≠ 0 := fun e => q (by rw [e]; rfl)
    rw [show gx_r u 3 0 = 4 from hf 3 0 (by decide)]
    refine ⟨isO_x 3 1 (by decide), isO_x 4 0 (by decide), i_X0_become hM hT (by decide) (by rw [hf 1 0 (by decide), hf 4 0 (by decide)]; decide) (fun f hf2 => ?_)⟩
    rintro u6 rfl
    have hB : byL (byW u 4 f T.length) 4 T := byL_W hM hf2 hT.2.2.2.2.1
    refine lp_X1_read X hd hQ (cnt T) 0 _ (by omega) (by omega) (fun o k h => hf o k h) (byL_pi hB (by decide)) (fun j hj => ?_) (fun g hg => hp hc f g hf2 hg)
    rw [show j = 0 by omega, gx_a_pi, byW_a, if_neg (by rw [hf 4 0 (by decide)]; decide)]
    exact h0
  · exact hz ((nI_eq (b := 0) (by omega) (by omega)).mp q)
theorem c_X1_read {l : Launch} {Z : gx_Z} {u : gx_S} {v0 : Nat} {v1 : Nat} {post : Int32 → gx_S → Prop} (h : S_X1_read u v0 v1 post) : Met l yX1_read (Cond.code yX1_read cX1_read 4 (some .int) :: gx_TB) (gx_rm 4) (gx_Pre Z u [.ref (Z.2.1 v0), .ref (Z.2.1 v1)]) (va_Qi post (gx_B Z) (gx_A Z)) 0 0 (gx_A Z) := by
  refine gx_met (by decide +kernel) (Nat.le_of_ble_eq_true rfl) ?_
  intro E X hZ hQ hD hL
  subst hZ
  exact w_X1_read X (Nat.le_of_eq hD.symm) hQ h
theorem cI_inj {a b : Nat} (ha : a < 256 ∨ a = 999) (hb : b < 256 ∨ b = 999) : cI a = cI b ↔ a = b := by
  constructor
  · intro h
    rcases hb with hb | rfl
    · rw [cI_lo hb] at h; exact (cI_eq hb).mp h
    · rcases ha with ha | rfl
      · rw [cI_lo ha] at h; exact absurd ((cI_eq ha).mp h.symm) (by omega)
      · rfl
  · intro h; rw [h]
theorem sml_alt {c : Nat} (h : c < 256 ∨ c = 999) : sml c < 256 ∨ sml c = 999 := by
  unfold sml isG
  rcases h with h | rfl
  · left; split
    · rename_i q; simp at q; omega
    · exact h
  · right; rfl
def cmpF (M : List Nat) (p : Nat) (N : List Nat) : Nat → Nat → Bool
  | 0, _ => true
  | k + 1, i => if sml (ch M (p + i)) = sml (ch N i) then cmpF M p N k (i + 1) else false
def isNm (M : List Nat) (p : Nat) (N : List Nat) : Bool := if nameLen M p = N.length then cmpF M p N N.length 0 else false
def S_X1_isNamed (u : gx_S) (v0 : Nat) (v1 : Int32) (v2 : Nat) (post : Int32 → gx_S → Prop) : Prop := ∃ (M N : List Nat) (p : Nat), gx_isO v0 1 ∧ byL u (gx_r u v0 0) M ∧ byL u v2 N ∧ p < 2 ^ 29 ∧ v1 = nI p ∧ post (b2 (isNm M p N)) u
theorem lp_X1_isNamed {E : gx_E} (X : gx_X E cX1_isNamed 4 RX1 (some .boolean)) (hd : 3 ≤ ex_d E) {post : Int32 → gx_S → Prop} (hQ : ex_Q E = va_Qi post (gx_B (ex_Z E)) (gx_A (ex_Z E))) {v0 v2 p : Nat} {M N : List Nat} {u : gx_S} (h0 : gx_isO v0 1) (hM : byL u (gx_r u v0 0) M) (hN : byL u v2 N) (hp : p < 2 ^ 29) :
    ∀ (n i : Nat), N.length - i = n → i ≤ N.length → post (b2 (cmpF M p N n i)) u → J_X1_isNamed_19 E v0 (nI p) v2 (nI i) u := by
  have hN2 := hN.2.2.2.2.1
  intro n
  induction n with
  | zero =>
    intro i hn hi h
    refine w_X1_isNamed_19 X hd hQ ⟨hN.1, i_X0_size hN ⟨fun _ => h, fun q => absurd (nI_le (by omega) (by omega)) q⟩⟩
  | succ n ih =>
    intro i hn hi h
    unfold cmpF at h
    refine w_X1_isNamed_19 X hd hQ ⟨hN.1, i_X0_size hN ⟨fun q => absurd q (nI_ge (by omega) (by omega)), fun _ => ⟨h0, hM.1, ?_⟩⟩⟩
    have a1 := ch_alt hM.2.2.2.2.2.1 (p + i)
    have a2 := ch_alt hN.2.2.2.2.2.1 i
    rw [nI_add]
    refine i_X0_at hM (by omega) (i_X6_small (i_X0_at hN (by omega) (i_X6_small ⟨fun q => ?_, fun q => ?_⟩ a2)) a1)
    · rintro x14 rfl
      rw [nI_1]
      rw [if_pos ((cI_inj (sml_alt a1) (sml_alt a2)).mp q)] at h
      exact ih (i + 1) (by omega) (by omega) h
    · rw [if_neg (fun e => q ((cI_inj (sml_alt a1) (sml_alt a2)).mpr e))] at h
      exact h
theorem w_X1_isNamed {E : gx_E} (X : gx_X E cX1_isNamed 4 RX1 (some .boolean)) (hd : 3 ≤ ex_d E) {post : Int32 → gx_S → Prop} (hQ : ex_Q E = va_Qi post (gx_B (ex_Z E)) (gx_A (ex_Z E))) {u : gx_S} {v0 : Nat} {v1 : Int32} {v2 : Nat} (h : S_X1_isNamed u v0 v1 v2 post) : gx_Wc E 4 0 [(0, .ref (ex_ad E v0)), (1, .int v1), (2, .ref (ex_ad E v2))] [] u := by
  obtain ⟨M, N, p, h0, hM, hN, hp, rfl, h⟩ := h
  have hN2 := hN.2.2.2.2.1
  have h20 := nameLen_le M p
  refine w_X1_isNamed_0 X hd hQ ⟨h0, M, p, hM, by omega, rfl, hN.1, i_X0_size hN ⟨fun q => ?_, fun q => ?_⟩⟩
  · have q2 := (nI_eq (by omega) (by omega)).mp q
    unfold isNm at h
    rw [if_pos q2] at h
    exact lp_X1_isNamed X hd hQ h0 hM hN hp N.length 0 (by omega) (by omega) h
  · unfold isNm at h
    rw [if_neg (fun e => q (by rw [e]))] at h
    exact h
theorem c_X1_isNamed {l : Launch} {Z : gx_Z} {u : gx_S} {v0 : Nat} {v1 : Int32} {v2 : Nat} {post : Int32 → gx_S → Prop} (h : S_X1_isNamed u v0 v1 v2 post) : Met l yX1_isNamed (Cond.code yX1_isNamed cX1_isNamed 4 (some .boolean) :: gx_TB) (gx_rm 3) (gx_Pre Z u [.ref (Z.2.1 v0), .int v1, .ref (Z.2.1 v2)]) (va_Qi post (gx_B Z) (gx_A Z)) 0 0 (gx_A Z) := by
  refine gx_met (by decide +kernel) (Nat.le_of_ble_eq_true rfl) ?_
  intro E X hZ hQ hD hL
  subst hZ
  exact w_X1_isNamed X (Nat.le_of_eq hD.symm) hQ h
-- PlainSeal$Mail.countNamed(LPlainSeal$Bytes;)I
theorem dX1_countNamed_0 : decode cX1_countNamed 0 = .ok (.iconst 0, 1) := by decide +kernel
theorem dX1_countNamed_1 : decode cX1_countNamed 1 = .ok (.istore_n 2, 1) := by decide +kernel
theorem dX1_countNamed_2 : decode cX1_countNamed 2 = .ok (.iconst 0, 1) := by decide +kernel
theorem dX1_countNamed_3 : decode cX1_countNamed 3 = .ok (.istore_n 3, 1) := by decide +kernel
theorem dX1_countNamed_4 : decode cX1_countNamed 4 = .ok (.iload_n 3, 1) := by decide +kernel
theorem dX1_countNamed_5 : decode cX1_countNamed 5 = .ok (.aload_n 0, 1) := by decide +kernel
theorem dX1_countNamed_6 : decode cX1_countNamed 6 = .ok (.getfield 22, 3) := by decide +kernel
theorem dX1_countNamed_9 : decode cX1_countNamed 9 = .ok (.if_icmp .ge 26, 3) := by decide +kernel
theorem dX1_countNamed_12 : decode cX1_countNamed 12 = .ok (.aload_n 0, 1) := by decide +kernel
theorem dX1_countNamed_13 : decode cX1_countNamed 13 = .ok (.aload_n 0, 1) := by decide +kernel
theorem dX1_countNamed_14 : decode cX1_countNamed 14 = .ok (.getfield 18, 3) := by decide +kernel
theorem dX1_countNamed_17 : decode cX1_countNamed 17 = .ok (.iload_n 3, 1) := by decide +kernel
theorem dX1_countNamed_18 : decode cX1_countNamed 18 = .ok (.iaload, 1) := by decide +kernel
theorem dX1_countNamed_19 : decode cX1_countNamed 19 = .ok (.aload_n 1, 1) := by decide +kernel
theorem dX1_countNamed_20 : decode cX1_countNamed 20 = .ok (.invokevirtual 69, 3) := by decide +kernel
theorem dX1_countNamed_23 : decode cX1_countNamed 23 = .ok (.ifCond .eq 6, 3) := by decide +kernel
theorem dX1_countNamed_26 : decode cX1_countNamed 26 = .ok (.iinc 2 1, 3) := by decide +kernel
theorem dX1_countNamed_29 : decode cX1_countNamed 29 = .ok (.iinc 3 1, 3) := by decide +kernel
theorem dX1_countNamed_32 : decode cX1_countNamed 32 = .ok (.goto (-28), 3) := by decide +kernel
theorem dX1_countNamed_35 : decode cX1_countNamed 35 = .ok (.iload_n 2, 1) := by decide +kernel
theorem dX1_countNamed_36 : decode cX1_countNamed 36 = .ok (.ireturn, 1) := by decide +kernel
theorem hyX1_countNamed : yX1_countNamed.cls ≠ "java/lang/invoke/MethodHandle" ∧ yX1_countNamed.cls ≠ "java/lang/invoke/VarHandle" ∧ (parseMethodDescriptor yX1_countNamed.desc).map (fun d => d.parameters.length) = some 1 := by decide +kernel
abbrev J_X1_countNamed_4 (E : gx_E) (v0 : Nat) (v1 : Nat) (v2 : Int32) (v3 : Int32) (u : gx_S) : Prop := gx_Wc E 4 4 [(0, .ref (ex_ad E v0)), (1, .ref (ex_ad E v1)), (2, .int v2), (3, .int v3)] [] u
set_option maxHeartbeats 4000000 in
set_option maxRecDepth 100000 in
theorem w_X1_countNamed_0 {E : gx_E} (X : gx_X E cX1_countNamed 4 RX1 (some .int)) (hd : 4 ≤ ex_d E) {post : Int32 → gx_S → Prop} (hQ : ex_Q E = va_Qi post (gx_B (ex_Z E)) (gx_A (ex_Z E))) {u : gx_S} {v0 : Nat} {v1 : Nat} (h : J_X1_countNamed_4 E v0 v1 (0 : Int32) (0 : Int32) u) : gx_Wc E 4 0 [(0, .ref (ex_ad E v0)), (1, .ref (ex_ad E v1))] [] u := by
  refine gx_iconst X (v := 0) dX1_countNamed_0 (by decide) ?_
  refine gx_istore_n X (lv' := [(2, .int (0 : Int32)), (0, .ref (ex_ad E v0)), (1, .ref (ex_ad E v1))]) dX1_countNamed_1 rfl (by decide) rfl ?_
  refine gx_iconst X (v := 0) dX1_countNamed_2 (by decide) ?_
  refine gx_istore_n X (lv' := [(3, .int (0 : Int32)), (2, .int (0 : Int32)), (0, .ref (ex_ad E v0)), (1, .ref (ex_ad E v1))]) dX1_countNamed_3 rfl (by decide) rfl ?_
  exact gx_sub [2, 3, 1, 0] rfl h
set_option maxHeartbeats 4000000 in
set_option maxRecDepth 100000 in
theorem w_X1_countNamed_4 {E : gx_E} (X : gx_X E cX1_countNamed 4 RX1 (some .int)) (hd : 4 ≤ ex_d E) {post : Int32 → gx_S → Prop} (hQ : ex_Q E = va_Qi post (gx_B (ex_Z E)) (gx_A (ex_Z E))) {u : gx_S} {v0 : Nat} {v1 : Nat} {v2 : Int32} {v3 : Int32} (h : (gx_isO v0 1 ∧ (((gx_i u v0 2) ≤ v3 → post v2 u) ∧ (¬ (gx_i u v0 2) ≤ v3 → (gx_isR (gx_r u v0 1) .int ∧ vp_in v3 (gx_len (gx_r u v0 1)) ∧ (S_X1_isNamed u v0 (gx_a u (gx_r u v0 1) v3.toNatClampNeg) v1 (fun (r5 : Int32) (u4 : gx_S) => ((r5 = 0 → (∀ x6 : Int32, x6 = v3 + 1 → J_X1_countNamed_4 E v0 v1 v2 x6 u4)) ∧ (¬ r5 = 0 → (∀ x7 : Int32, x7 = v2 + 1 → (∀ x8 : Int32, x8 = v3 + 1 → J_X1_countNamed_4 E v0 v1 x7 x8 u4))))))))))) : gx_Wc E 4 4 [(0, .ref (ex_ad E v0)), (1, .ref (ex_ad E v1)), (2, .int v2), (3, .int v3)] [] u := by
  refine gx_iload_n X (j := 3) dX1_countNamed_4 rfl rfl ?_
  refine gx_aload_n X (j := 0) dX1_countNamed_5 rfl rfl ?_
  obtain ⟨k1, h⟩ := h
  refine gx_get X k1 rfl iwX1 2 (by decide) mw_48 (v := .int (gx_i u v0 2)) rfl dX1_countNamed_6 ?_
  refine gx_icmp_ge X (tgt := 35) dX1_countNamed_9 (by decide) (fun c10 => ?_) (fun c10 => ?_)
  · replace h := h.1 c10
    refine gx_iload_n X (j := 2) dX1_countNamed_35 rfl rfl ?_
    exact gx_iret X hQ h dX1_countNamed_36
  · replace h := h.2 c10
    refine gx_aload_n X (j := 0) dX1_countNamed_12 rfl rfl ?_
    refine gx_aload_n X (j := 0) dX1_countNamed_13 rfl rfl ?_
    refine gx_get X k1 rfl iwX1 1 (by decide) mw_47 (v := .ref (ex_ad E (gx_r u v0 1))) rfl dX1_countNamed_14 ?_
    refine gx_iload_n X (j := 3) dX1_countNamed_17 rfl rfl ?_
    obtain ⟨k2, h⟩ := h
    obtain ⟨k3, h⟩ := h
    refine gx_iald X k2 k3 dX1_countNamed_18 ?_
    refine gx_aload_n X (j := 1) dX1_countNamed_19 rfl rfl ?_
    refine gx_ki (gx_rV X (c_X1_isNamed h) (Nat.le_trans (by decide) hd) (Nat.le_trans (by decide) (Nat.mul_le_mul_left 40 hd)) k1 rfl mw_252 mw_254 mp_1 mw_3 mw_255 hyX1_isNamed (As := [.int (gx_a u (gx_r u v0 1) v3.toNatClampNeg), .ref (ex_ad E v1)]) (rest := []) rfl rfl (Nat.le_of_ble_eq_true rfl) dX1_countNamed_20) (fun r5 u4 h => ?_)
    refine gx_if_eq X (tgt := 29) dX1_countNamed_23 (by decide) (fun c9 => ?_) (fun c9 => ?_)
    · replace h := h.1 c9
      obtain ⟨x6, ex6⟩ : ∃ y : Int32, y = v3 + 1 := ⟨_, rfl⟩
      replace h := h x6 ex6
      refine gx_iinc X (v := x6) (lv' := [(3, .int x6), (0, .ref (ex_ad E v0)), (1, .ref (ex_ad E v1)), (2, .int v2)]) dX1_countNamed_29 (j := 3) rfl (by rw [ex6]; rfl) (by decide) rfl ?_
      refine gx_goto X (tgt := 4) dX1_countNamed_32 (by decide) ?_
      exact gx_sub [1, 2, 3, 0] rfl h
    · replace h := h.2 c9
      obtain ⟨x7, ex7⟩ : ∃ y : Int32, y = v2 + 1 := ⟨_, rfl⟩
      replace h := h x7 ex7
      refine gx_iinc X (v := x7) (lv' := [(2, .int x7), (0, .ref (ex_ad E v0)), (1, .ref (ex_ad E v1)), (3, .int v3)]) dX1_countNamed_26 (j := 2) rfl (by rw [ex7]; rfl) (by decide) rfl ?_
      obtain ⟨x8, ex8⟩ : ∃ y : Int32, y = v3 + 1 := ⟨_, rfl⟩
      replace h := h x8 ex8
      refine gx_iinc X (v := x8) (lv' := [(3, .int x8), (2, .int x7), (0, .ref (ex_ad E v0)), (1, .ref (ex_ad E v1))]) dX1_countNamed_29 (j := 3) rfl (by rw [ex8]; rfl) (by decide) rfl ?_
      refine gx_goto X (tgt := 4) dX1_countNamed_32 (by decide) ?_
      exact gx_sub [2, 3, 1, 0] rfl h
/-- the mail object 3 holds the message M with its k fields -/
def mlL (u : gx_S) (M : List Nat) (k : Nat) : Prop := byL u 4 M ∧ gx_i u 3 2 = nI k ∧ k ≤ 20 ∧ ∀ j, j ≤ k → gx_a u 13 j = nI (plc M j)
def cnm (M N : List Nat) : Nat → Nat
  | 0 => 0
  | k + 1 => cnm M N k + (if isNm M (plc M k) N then 1 else 0)
theorem cnm_le (M N : List Nat) : ∀ k, cnm M N k ≤ k
  | 0 => Nat.le_refl _
  | k + 1 => by
    have := cnm_le M N k
    unfold cnm
    split <;> omega
def S_X1_countNamed (u : gx_S) (v0 v1 : Nat) (post : Int32 → gx_S → Prop) : Prop := v0 = 3 ∧ cfix u ∧ ∃ (M N : List Nat) (k : Nat), mlL u M k ∧ byL u v1 N ∧ post (nI (cnm M N k)) u
theorem lp_X1_countNamed {E : gx_E} (X : gx_X E cX1_countNamed 4 RX1 (some .int)) (hd : 4 ≤ ex_d E) {post : Int32 → gx_S → Prop} (hQ : ex_Q E = va_Qi post (gx_B (ex_Z E)) (gx_A (ex_Z E))) {v1 k : Nat} {M N : List Nat} {u : gx_S} (hf : cfix u) (hM : mlL u M k) (hN : byL u v1 N) (h : post (nI (cnm M N k)) u) :
    ∀ (n i : Nat), k - i = n → i ≤ k → J_X1_countNamed_4 E 3 v1 (nI (cnm M N i)) (nI i) u := by
  obtain ⟨m1, m2, m3, m4⟩ := hM
  have hM2 := m1.2.2.2.2.1
  have e1 : gx_r u 3 1 = 13 := hf 3 1 (by decide)
  have e0 : gx_r u 3 0 = 4 := hf 3 0 (by decide)
  intro n
  induction n with
  | zero =>
    intro i hn hi
    refine w_X1_countNamed_4 X hd hQ ⟨isO_x 3 1 (by decide), fun _ => ?_, fun q => ?_⟩
    · rw [show i = k by omega]; exact h
    · rw [m2] at q; exact absurd (nI_le (by omega) (by omega)) q
  | succ n ih =>
    intro i hn hi
    have hc := cnm_le M N i
    have hpl := plc_le M i
    refine w_X1_countNamed_4 X hd hQ ⟨isO_x 3 1 (by decide), fun q => ?_, fun _ => ?_⟩
    · rw [m2] at q; exact absurd q (nI_ge (by omega) (by omega))
    · rw [e1]
      refine ⟨isA13.r, vp_in_nI (N := 21) (by omega) (by omega), M, N, plc M i, isO_x 3 1 (by decide), by rw [e0]; exact m1, hN, by omega, ?_, ⟨fun q => ?_, fun q => ?_⟩⟩
      · rw [nI_clamp (by omega)]; exact m4 i (by omega)
      · rintro x6 rfl
        rw [nI_1]
        rw [b2_0] at q
        have := ih (i + 1) (by omega) (by omega)
        rw [show cnm M N (i + 1) = cnm M N i by rw [cnm, q]; rfl] at this
        exact this
      · rintro x7 rfl x8 rfl
        rw [nI_1, nI_1]
        have := ih (i + 1) (by omega) (by omega)
        rw [show cnm M N (i + 1) = cnm M N i + 1 by rw [cnm, b2_n0 q]; rfl] at this
        exact this
theorem w_X1_countNamed {E : gx_E} (X : gx_X E cX1_countNamed 4 RX1 (some .int)) (hd : 4 ≤ ex_d E) {post : Int32 → gx_S → Prop} (hQ : ex_Q E = va_Qi post (gx_B (ex_Z E)) (gx_A (ex_Z E))) {u : gx_S} {v0 v1 : Nat} (h : S_X1_countNamed u v0 v1 post) : gx_Wc E 4 0 [(0, .ref (ex_ad E v0)), (1, .ref (ex_ad E v1))] [] u := by
  obtain ⟨rfl, hf, M, N, k, hM, hN, h⟩ := h
  exact w_X1_countNamed_0 X hd hQ (lp_X1_countNamed X hd hQ hf hM hN h k 0 (by omega) (by omega))
theorem c_X1_countNamed {l : Launch} {Z : gx_Z} {u : gx_S} {v0 : Nat} {v1 : Nat} {post : Int32 → gx_S → Prop} (h : S_X1_countNamed u v0 v1 post) : Met l yX1_countNamed (Cond.code yX1_countNamed cX1_countNamed 4 (some .int) :: gx_TB) (gx_rm 4) (gx_Pre Z u [.ref (Z.2.1 v0), .ref (Z.2.1 v1)]) (va_Qi post (gx_B Z) (gx_A Z)) 0 0 (gx_A Z) := by
  refine gx_met (by decide +kernel) (Nat.le_of_ble_eq_true rfl) ?_
  intro E X hZ hQ hD hL
  subst hZ
  exact w_X1_countNamed X (Nat.le_of_eq hD.symm) hQ h
end
section
-- PlainSeal$Mail.writeBody(ZLPlainSeal$Bytes;)V
theorem dX1_writeBody_0 : decode cX1_writeBody 0 = .ok (.iconst 0, 1) := by decide +kernel
theorem dX1_writeBody_1 : decode cX1_writeBody 1 = .ok (.istore_n 3, 1) := by decide +kernel
theorem dX1_writeBody_2 : decode cX1_writeBody 2 = .ok (.iconst 0, 1) := by decide +kernel
theorem dX1_writeBody_3 : decode cX1_writeBody 3 = .ok (.istore 4, 2) := by decide +kernel
theorem dX1_writeBody_5 : decode cX1_writeBody 5 = .ok (.aload_n 2, 1) := by decide +kernel
theorem dX1_writeBody_6 : decode cX1_writeBody 6 = .ok (.invokevirtual 76, 3) := by decide +kernel
theorem dX1_writeBody_9 : decode cX1_writeBody 9 = .ok (.aload_n 0, 1) := by decide +kernel
theorem dX1_writeBody_10 : decode cX1_writeBody 10 = .ok (.getfield 18, 3) := by decide +kernel
theorem dX1_writeBody_13 : decode cX1_writeBody 13 = .ok (.aload_n 0, 1) := by decide +kernel
theorem dX1_writeBody_14 : decode cX1_writeBody 14 = .ok (.getfield 22, 3) := by decide +kernel
theorem dX1_writeBody_17 : decode cX1_writeBody 17 = .ok (.iaload, 1) := by decide +kernel
theorem dX1_writeBody_18 : decode cX1_writeBody 18 = .ok (.iconst 1, 1) := by decide +kernel
theorem dX1_writeBody_19 : decode cX1_writeBody 19 = .ok (.iadd, 1) := by decide +kernel
theorem dX1_writeBody_20 : decode cX1_writeBody 20 = .ok (.istore 5, 2) := by decide +kernel
theorem dX1_writeBody_22 : decode cX1_writeBody 22 = .ok (.iload 5, 2) := by decide +kernel
theorem dX1_writeBody_24 : decode cX1_writeBody 24 = .ok (.aload_n 0, 1) := by decide +kernel
theorem dX1_writeBody_25 : decode cX1_writeBody 25 = .ok (.getfield 12, 3) := by decide +kernel
theorem dX1_writeBody_28 : decode cX1_writeBody 28 = .ok (.invokevirtual 45, 3) := by decide +kernel
theorem dX1_writeBody_31 : decode cX1_writeBody 31 = .ok (.if_icmp .ge 88, 3) := by decide +kernel
theorem dX1_writeBody_34 : decode cX1_writeBody 34 = .ok (.aload_n 0, 1) := by decide +kernel
theorem dX1_writeBody_35 : decode cX1_writeBody 35 = .ok (.getfield 12, 3) := by decide +kernel
theorem dX1_writeBody_38 : decode cX1_writeBody 38 = .ok (.iload 5, 2) := by decide +kernel
theorem dX1_writeBody_40 : decode cX1_writeBody 40 = .ok (.invokevirtual 49, 3) := by decide +kernel
theorem dX1_writeBody_43 : decode cX1_writeBody 43 = .ok (.istore 6, 2) := by decide +kernel
theorem dX1_writeBody_45 : decode cX1_writeBody 45 = .ok (.iload 6, 2) := by decide +kernel
theorem dX1_writeBody_47 : decode cX1_writeBody 47 = .ok (.bipush 10, 2) := by decide +kernel
theorem dX1_writeBody_49 : decode cX1_writeBody 49 = .ok (.if_icmp .ne 12, 3) := by decide +kernel
theorem dX1_writeBody_52 : decode cX1_writeBody 52 = .ok (.iinc 3 1, 3) := by decide +kernel
theorem dX1_writeBody_55 : decode cX1_writeBody 55 = .ok (.iconst 0, 1) := by decide +kernel
theorem dX1_writeBody_56 : decode cX1_writeBody 56 = .ok (.istore 4, 2) := by decide +kernel
theorem dX1_writeBody_58 : decode cX1_writeBody 58 = .ok (.goto 55, 3) := by decide +kernel
theorem dX1_writeBody_61 : decode cX1_writeBody 61 = .ok (.iload_n 1, 1) := by decide +kernel
theorem dX1_writeBody_62 : decode cX1_writeBody 62 = .ok (.ifCond .eq 17, 3) := by decide +kernel
theorem dX1_writeBody_65 : decode cX1_writeBody 65 = .ok (.iload 6, 2) := by decide +kernel
theorem dX1_writeBody_67 : decode cX1_writeBody 67 = .ok (.invokestatic 66, 3) := by decide +kernel
theorem dX1_writeBody_70 : decode cX1_writeBody 70 = .ok (.ifCond .eq 9, 3) := by decide +kernel
theorem dX1_writeBody_73 : decode cX1_writeBody 73 = .ok (.iconst 1, 1) := by decide +kernel
theorem dX1_writeBody_74 : decode cX1_writeBody 74 = .ok (.istore 4, 2) := by decide +kernel
theorem dX1_writeBody_76 : decode cX1_writeBody 76 = .ok (.goto 37, 3) := by decide +kernel
theorem dX1_writeBody_79 : decode cX1_writeBody 79 = .ok (.aload_n 2, 1) := by decide +kernel
theorem dX1_writeBody_80 : decode cX1_writeBody 80 = .ok (.bipush 10, 2) := by decide +kernel
theorem dX1_writeBody_82 : decode cX1_writeBody 82 = .ok (.iload_n 3, 1) := by decide +kernel
theorem dX1_writeBody_83 : decode cX1_writeBody 83 = .ok (.invokevirtual 79, 3) := by decide +kernel
theorem dX1_writeBody_86 : decode cX1_writeBody 86 = .ok (.aload_n 2, 1) := by decide +kernel
theorem dX1_writeBody_87 : decode cX1_writeBody 87 = .ok (.bipush 32, 2) := by decide +kernel
theorem dX1_writeBody_89 : decode cX1_writeBody 89 = .ok (.iload 4, 2) := by decide +kernel
theorem dX1_writeBody_91 : decode cX1_writeBody 91 = .ok (.ifCond .eq 7, 3) := by decide +kernel
theorem dX1_writeBody_94 : decode cX1_writeBody 94 = .ok (.iconst 1, 1) := by decide +kernel
theorem dX1_writeBody_95 : decode cX1_writeBody 95 = .ok (.goto 4, 3) := by decide +kernel
theorem dX1_writeBody_98 : decode cX1_writeBody 98 = .ok (.iconst 0, 1) := by decide +kernel
theorem dX1_writeBody_99 : decode cX1_writeBody 99 = .ok (.invokevirtual 79, 3) := by decide +kernel
theorem dX1_writeBody_102 : decode cX1_writeBody 102 = .ok (.aload_n 2, 1) := by decide +kernel
theorem dX1_writeBody_103 : decode cX1_writeBody 103 = .ok (.iload 6, 2) := by decide +kernel
theorem dX1_writeBody_105 : decode cX1_writeBody 105 = .ok (.invokevirtual 83, 3) := by decide +kernel
theorem dX1_writeBody_108 : decode cX1_writeBody 108 = .ok (.iconst 0, 1) := by decide +kernel
theorem dX1_writeBody_109 : decode cX1_writeBody 109 = .ok (.istore_n 3, 1) := by decide +kernel
theorem dX1_writeBody_110 : decode cX1_writeBody 110 = .ok (.iconst 0, 1) := by decide +kernel
theorem dX1_writeBody_111 : decode cX1_writeBody 111 = .ok (.istore 4, 2) := by decide +kernel
theorem dX1_writeBody_113 : decode cX1_writeBody 113 = .ok (.iinc 5 1, 3) := by decide +kernel
theorem dX1_writeBody_116 : decode cX1_writeBody 116 = .ok (.goto (-94), 3) := by decide +kernel
theorem dX1_writeBody_119 : decode cX1_writeBody 119 = .ok (.iload_n 1, 1) := by decide +kernel
theorem dX1_writeBody_120 : decode cX1_writeBody 120 = .ok (.ifCond .eq 10, 3) := by decide +kernel
theorem dX1_writeBody_123 : decode cX1_writeBody 123 = .ok (.aload_n 2, 1) := by decide +kernel
theorem dX1_writeBody_124 : decode cX1_writeBody 124 = .ok (.invokevirtual 45, 3) := by decide +kernel
theorem dX1_writeBody_127 : decode cX1_writeBody 127 = .ok (.ifCond .le 9, 3) := by decide +kernel
theorem dX1_writeBody_130 : decode cX1_writeBody 130 = .ok (.aload_n 2, 1) := by decide +kernel
theorem dX1_writeBody_131 : decode cX1_writeBody 131 = .ok (.bipush 10, 2) := by decide +kernel
theorem dX1_writeBody_133 : decode cX1_writeBody 133 = .ok (.invokevirtual 83, 3) := by decide +kernel
theorem dX1_writeBody_136 : decode cX1_writeBody 136 = .ok (.return_, 1) := by decide +kernel
theorem hyX1_writeBody : yX1_writeBody.cls ≠ "java/lang/invoke/MethodHandle" ∧ yX1_writeBody.cls ≠ "java/lang/invoke/VarHandle" ∧ (parseMethodDescriptor yX1_writeBody.desc).map (fun d => d.parameters.length) = some 2 := by decide +kernel
abbrev J_X1_writeBody_22 (E : gx_E) (v0 : Nat) (v1 : Int32) (v2 : Nat) (v3 : Int32) (v4 : Int32) (v5 : Int32) (u : gx_S) : Prop := gx_Wc E 7 22 [(0, .ref (ex_ad E v0)), (1, .int v1), (2, .ref (ex_ad E v2)), (3, .int v3), (4, .int v4), (5, .int v5)] [] u
set_option maxHeartbeats 4000000 in
set_option maxRecDepth 100000 in
theorem w_X1_writeBody_0 {E : gx_E} (X : gx_X E cX1_writeBody 7 RX1 none) (hd : 2 ≤ ex_d E) {post : gx_S → Prop} (hQ : ex_Q E = va_Qv post (gx_B (ex_Z E)) (gx_A (ex_Z E))) {u : gx_S} {v0 : Nat} {v1 : Int32} {v2 : Nat} (h : (gx_isO v2 0 ∧ S_X0_clear u v2 (fun (u2 : gx_S) => (gx_isO v0 1 ∧ (gx_isR (gx_r u2 v0 1) .int ∧ vp_in (gx_i u2 v0 2) (gx_len (gx_r u2 v0 1)) ∧ (∀ x6 : Int32, x6 = ((gx_a u2 (gx_r u2 v0 1) (gx_i u2 v0 2).toNatClampNeg) + (1 : Int32)) → J_X1_writeBody_22 E v0 v1 v2 (0 : Int32) (0 : Int32) x6 u2)))))) : gx_Wc E 7 0 [(0, .ref (ex_ad E v0)), (1, .int v1), (2, .ref (ex_ad E v2))] [] u := by
  refine gx_iconst X (v := 0) dX1_writeBody_0 (by decide) ?_
  refine gx_istore_n X (lv' := [(3, .int (0 : Int32)), (0, .ref (ex_ad E v0)), (1, .int v1), (2, .ref (ex_ad E v2))]) dX1_writeBody_1 rfl (by decide) rfl ?_
  refine gx_iconst X (v := 0) dX1_writeBody_2 (by decide) ?_
  refine gx_istore X (lv' := [(4, .int (0 : Int32)), (3, .int (0 : Int32)), (0, .ref (ex_ad E v0)), (1, .int v1), (2, .ref (ex_ad E v2))]) dX1_writeBody_3 (by decide) rfl ?_
  refine gx_aload_n X (j := 4) dX1_writeBody_5 rfl rfl ?_
  obtain ⟨k1, h⟩ := h
  refine gx_kv (gx_rV X (c_X0_clear h) (Nat.le_trans (by decide) hd) (Nat.le_trans (by decide) (Nat.mul_le_mul_left 40 hd)) k1 rfl mw_213 mw_192 mw_193 mw_2 mw_194 hyX0_clear (As := []) (rest := []) rfl rfl (Nat.le_of_ble_eq_true rfl) dX1_writeBody_6) (fun u2 h => ?_)
  refine gx_aload_n X (j := 2) dX1_writeBody_9 rfl rfl ?_
  obtain ⟨k3, h⟩ := h
  refine gx_get X k3 rfl iwX1 1 (by decide) mw_47 (v := .ref (ex_ad E (gx_r u2 v0 1))) rfl dX1_writeBody_10 ?_
  refine gx_aload_n X (j := 2) dX1_writeBody_13 rfl rfl ?_
  refine gx_get X k3 rfl iwX1 2 (by decide) mw_48 (v := .int (gx_i u2 v0 2)) rfl dX1_writeBody_14 ?_
  obtain ⟨k4, h⟩ := h
  obtain ⟨k5, h⟩ := h
  refine gx_iald X k4 k5 dX1_writeBody_17 ?_
  refine gx_iconst X (v := 1) dX1_writeBody_18 (by decide) ?_
  refine gx_iadd X dX1_writeBody_19 ?_
  refine gx_nami (fun x6 ex6 => ?_)
  replace h := h x6 ex6
  refine gx_istore X (lv' := [(5, .int x6), (4, .int (0 : Int32)), (3, .int (0 : Int32)), (0, .ref (ex_ad E v0)), (1, .int v1), (2, .ref (ex_ad E v2))]) dX1_writeBody_20 (by decide) rfl ?_
  exact gx_sub [3, 4, 5, 2, 1, 0] rfl h
set_option maxHeartbeats 4000000 in
set_option maxRecDepth 100000 in
theorem w_X1_writeBody_22 {E : gx_E} (X : gx_X E cX1_writeBody 7 RX1 none) (hd : 2 ≤ ex_d E) {post : gx_S → Prop} (hQ : ex_Q E = va_Qv post (gx_B (ex_Z E)) (gx_A (ex_Z E))) {u : gx_S} {v0 : Nat} {v1 : Int32} {v2 : Nat} {v3 : Int32} {v4 : Int32} {v5 : Int32} (h : (gx_isO v0 1 ∧ (gx_isO (gx_r u v0 0) 0 ∧ S_X0_size u (gx_r u v0 0) (fun (r4 : Int32) (u3 : gx_S) => ((r4 ≤ v5 → ((v1 = 0 → (gx_isO v2 0 ∧ S_X0_add u3 v2 (10 : Int32) (fun (u6 : gx_S) => post u6))) ∧ (¬ v1 = 0 → (gx_isO v2 0 ∧ S_X0_size u3 v2 (fun (r9 : Int32) (u8 : gx_S) => ((r9 ≤ 0 → post u8) ∧ (¬ r9 ≤ 0 → (S_X0_add u8 v2 (10 : Int32) (fun (u10 : gx_S) => post u10))))))))) ∧ (¬ r4 ≤ v5 → (gx_isO (gx_r u3 v0 0) 0 ∧ S_X0_at u3 (gx_r u3 v0 0) v5 (fun (r15 : Int32) (u14 : gx_S) => ((¬ r15 = (10 : Int32) → ((v1 = 0 → (gx_isO v2 0 ∧ S_X0_addTimes u14 v2 (10 : Int32) v3 (fun (u17 : gx_S) => ((v4 = 0 → (S_X0_addTimes u17 v2 (32 : Int32) (0 : Int32) (fun (u18 : gx_S) => (S_X0_add u18 v2 r15 (fun (u19 : gx_S) => (∀ x20 : Int32, x20 = v5 + 1 → J_X1_writeBody_22 E v0 v1 v2 (0 : Int32) (0 : Int32) x20 u19)))))) ∧ (¬ v4 = 0 → (S_X0_addTimes u17 v2 (32 : Int32) (1 : Int32) (fun (u21 : gx_S) => (S_X0_add u21 v2 r15 (fun (u22 : gx_S) => (∀ x23 : Int32, x23 = v5 + 1 → J_X1_writeBody_22 E v0 v1 v2 (0 : Int32) (0 : Int32) x23 u22)))))))))) ∧ (¬ v1 = 0 → (S_X6_isWhite u14 r15 (fun (r26 : Int32) (u25 : gx_S) => ((r26 = 0 → (gx_isO v2 0 ∧ S_X0_addTimes u25 v2 (10 : Int32) v3 (fun (u28 : gx_S) => ((v4 = 0 → (S_X0_addTimes u28 v2 (32 : Int32) (0 : Int32) (fun (u29 : gx_S) => (S_X0_add u29 v2 r15 (fun (u30 : gx_S) => (∀ x31 : Int32, x31 = v5 + 1 → J_X1_writeBody_22 E v0 v1 v2 (0 : Int32) (0 : Int32) x31 u30)))))) ∧ (¬ v4 = 0 → (S_X0_addTimes u28 v2 (32 : Int32) (1 : Int32) (fun (u32 : gx_S) => (S_X0_add u32 v2 r15 (fun (u33 : gx_S) => (∀ x34 : Int32, x34 = v5 + 1 → J_X1_writeBody_22 E v0 v1 v2 (0 : Int32) (0 : Int32) x34 u33)))))))))) ∧ (¬ r26 = 0 → (∀ x36 : Int32, x36 = v5 + 1 → J_X1_writeBody_22 E v0 v1 v2 v3 (1 : Int32) x36 u25)))))))) ∧ (r15 = (10 : Int32) → (∀ x39 : Int32, x39 = v3 + 1 → (∀ x40 : Int32, x40 = v5 + 1 → J_X1_writeBody_22 E v0 v1 v2 x39 (0 : Int32) x40 u14)))))))))))) : gx_Wc E 7 22 [(0, .ref (ex_ad E v0)), (1, .int v1), (2, .ref (ex_ad E v2)), (3, .int v3), (4, .int v4), (5, .int v5)] [] u := by
  refine gx_iload X (j := 5) dX1_writeBody_22 rfl ?_
  refine gx_aload_n X (j := 0) dX1_writeBody_24 rfl rfl ?_
  obtain ⟨k1, h⟩ := h
  refine gx_get X k1 rfl iwX1 0 (by decide) mw_46 (v := .ref (ex_ad E (gx_r u v0 0))) rfl dX1_writeBody_25 ?_
  obtain ⟨k2, h⟩ := h
  refine gx_ki (gx_rV X (c_X0_size h) (Nat.le_trans (by decide) hd) (Nat.le_trans (by decide) (Nat.mul_le_mul_left 40 hd)) k2 rfl mw_161 mw_128 mw_129 mw_2 mw_130 hyX0_size (As := []) (rest := [.int v5]) rfl rfl (Nat.le_of_ble_eq_true rfl) dX1_writeBody_28) (fun r4 u3 h => ?_)
  refine gx_icmp_ge X (tgt := 119) dX1_writeBody_31 (by decide) (fun c42 => ?_) (fun c42 => ?_)
  · replace h := h.1 c42
    refine gx_iload_n X (j := 1) dX1_writeBody_119 rfl rfl ?_
    refine gx_if_eq X (tgt := 130) dX1_writeBody_120 (by decide) (fun c12 => ?_) (fun c12 => ?_)
    · replace h := h.1 c12
      refine gx_aload_n X (j := 2) dX1_writeBody_130 rfl rfl ?_
      refine gx_bipush X (v := 10) dX1_writeBody_131 (by decide) ?_
      obtain ⟨k5, h⟩ := h
      refine gx_kv (gx_rV X (c_X0_add h) (Nat.le_trans (by decide) hd) (Nat.le_trans (by decide) (Nat.mul_le_mul_left 40 hd)) k5 rfl mw_218 mw_136 mw_137 mw_2 mw_138 hyX0_add (As := [.int (10 : Int32)]) (rest := []) rfl rfl (Nat.le_of_ble_eq_true rfl) dX1_writeBody_133) (fun u6 h => ?_)
      exact gx_vret X hQ h dX1_writeBody_136
    · replace h := h.2 c12
      refine gx_aload_n X (j := 2) dX1_writeBody_123 rfl rfl ?_
      obtain ⟨k7, h⟩ := h
      refine gx_ki (gx_rV X (c_X0_size h) (Nat.le_trans (by decide) hd) (Nat.le_trans (by decide) (Nat.mul_le_mul_left 40 hd)) k7 rfl mw_161 mw_128 mw_129 mw_2 mw_130 hyX0_size (As := []) (rest := []) rfl rfl (Nat.le_of_ble_eq_true rfl) dX1_writeBody_124) (fun r9 u8 h => ?_)
      refine gx_if_le X (tgt := 136) dX1_writeBody_127 (by decide) (fun c11 => ?_) (fun c11 => ?_)
      · replace h := h.1 c11
        exact gx_vret X hQ h dX1_writeBody_136
      · replace h := h.2 c11
        refine gx_aload_n X (j := 2) dX1_writeBody_130 rfl rfl ?_
        refine gx_bipush X (v := 10) dX1_writeBody_131 (by decide) ?_
        refine gx_kv (gx_rV X (c_X0_add h) (Nat.le_trans (by decide) hd) (Nat.le_trans (by decide) (Nat.mul_le_mul_left 40 hd)) k7 rfl mw_218 mw_136 mw_137 mw_2 mw_138 hyX0_add (As := [.int (10 : Int32)]) (rest := []) rfl rfl (Nat.le_of_ble_eq_true rfl) dX1_writeBody_133) (fun u10 h => ?_)
        exact gx_vret X hQ h dX1_writeBody_136
  · replace h := h.2 c42
    refine gx_aload_n X (j := 0) dX1_writeBody_34 rfl rfl ?_
    refine gx_get X k1 rfl iwX1 0 (by decide) mw_46 (v := .ref (ex_ad E (gx_r u3 v0 0))) rfl dX1_writeBody_35 ?_
    refine gx_iload X (j := 5) dX1_writeBody_38 rfl ?_
    obtain ⟨k13, h⟩ := h
    refine gx_ki (gx_rV X (c_X0_at h) (Nat.le_trans (by decide) hd) (Nat.le_trans (by decide) (Nat.mul_le_mul_left 40 hd)) k13 rfl mw_162 mw_163 mw_164 mw_2 mw_165 hyX0_at (As := [.int v5]) (rest := []) rfl rfl (Nat.le_of_ble_eq_true rfl) dX1_writeBody_40) (fun r15 u14 h => ?_)
    refine gx_istore X (lv' := [(6, .int r15), (0, .ref (ex_ad E v0)), (1, .int v1), (2, .ref (ex_ad E v2)), (3, .int v3), (4, .int v4), (5, .int v5)]) dX1_writeBody_43 (by decide) rfl ?_
    refine gx_iload X (j := 0) dX1_writeBody_45 rfl ?_
    refine gx_bipush X (v := 10) dX1_writeBody_47 (by decide) ?_
    refine gx_icmp_ne X (tgt := 61) dX1_writeBody_49 (by decide) (fun c41 => ?_) (fun c41 => ?_)
    · replace h := h.1 c41
      refine gx_iload_n X (j := 2) dX1_writeBody_61 rfl rfl ?_
      refine gx_if_eq X (tgt := 79) dX1_writeBody_62 (by decide) (fun c38 => ?_) (fun c38 => ?_)
      · replace h := h.1 c38
        refine gx_aload_n X (j := 3) dX1_writeBody_79 rfl rfl ?_
        refine gx_bipush X (v := 10) dX1_writeBody_80 (by decide) ?_
        refine gx_iload_n X (j := 4) dX1_writeBody_82 rfl rfl ?_
        obtain ⟨k16, h⟩ := h
        refine gx_kv (gx_rV X (c_X0_addTimes h) (Nat.le_trans (by decide) hd) (Nat.le_trans (by decide) (Nat.mul_le_mul_left 40 hd)) k16 rfl mw_214 mw_215 mw_216 mw_2 mw_217 hyX0_addTimes (As := [.int (10 : Int32), .int v3]) (rest := []) rfl rfl (Nat.le_of_ble_eq_true rfl) dX1_writeBody_83) (fun u17 h => ?_)
        refine gx_aload_n X (j := 3) dX1_writeBody_86 rfl rfl ?_
        refine gx_bipush X (v := 32) dX1_writeBody_87 (by decide) ?_
        refine gx_iload X (j := 5) dX1_writeBody_89 rfl ?_
        refine gx_if_eq X (tgt := 98) dX1_writeBody_91 (by decide) (fun c24 => ?_) (fun c24 => ?_)
        · replace h := h.1 c24
          refine gx_iconst X (v := 0) dX1_writeBody_98 (by decide) ?_
          refine gx_kv (gx_rV X (c_X0_addTimes h) (Nat.le_trans (by decide) hd) (Nat.le_trans (by decide) (Nat.mul_le_mul_left 40 hd)) k16 rfl mw_214 mw_215 mw_216 mw_2 mw_217 hyX0_addTimes (As := [.int (32 : Int32), .int (0 : Int32)]) (rest := []) rfl rfl (Nat.le_of_ble_eq_true rfl) dX1_writeBody_99) (fun u18 h => ?_)
          refine gx_aload_n X (j := 3) dX1_writeBody_102 rfl rfl ?_
          refine gx_iload X (j := 0) dX1_writeBody_103 rfl ?_
          refine gx_kv (gx_rV X (c_X0_add h) (Nat.le_trans (by decide) hd) (Nat.le_trans (by decide) (Nat.mul_le_mul_left 40 hd)) k16 rfl mw_218 mw_136 mw_137 mw_2 mw_138 hyX0_add (As := [.int r15]) (rest := []) rfl rfl (Nat.le_of_ble_eq_true rfl) dX1_writeBody_105) (fun u19 h => ?_)
          refine gx_iconst X (v := 0) dX1_writeBody_108 (by decide) ?_
          refine gx_istore_n X (lv' := [(3, .int (0 : Int32)), (6, .int r15), (0, .ref (ex_ad E v0)), (1, .int v1), (2, .ref (ex_ad E v2)), (4, .int v4), (5, .int v5)]) dX1_writeBody_109 rfl (by decide) rfl ?_
          refine gx_iconst X (v := 0) dX1_writeBody_110 (by decide) ?_
          refine gx_istore X (lv' := [(4, .int (0 : Int32)), (3, .int (0 : Int32)), (6, .int r15), (0, .ref (ex_ad E v0)), (1, .int v1), (2, .ref (ex_ad E v2)), (5, .int v5)]) dX1_writeBody_111 (by decide) rfl ?_
          obtain ⟨x20, ex20⟩ : ∃ y : Int32, y = v5 + 1 := ⟨_, rfl⟩
          replace h := h x20 ex20
          refine gx_iinc X (v := x20) (lv' := [(5, .int x20), (4, .int (0 : Int32)), (3, .int (0 : Int32)), (6, .int r15), (0, .ref (ex_ad E v0)), (1, .int v1), (2, .ref (ex_ad E v2))]) dX1_writeBody_113 (j := 6) rfl (by rw [ex20]; rfl) (by decide) rfl ?_
          refine gx_goto X (tgt := 22) dX1_writeBody_116 (by decide) ?_
          exact gx_sub [4, 5, 6, 2, 1, 0] rfl h
        · replace h := h.2 c24
          refine gx_iconst X (v := 1) dX1_writeBody_94 (by decide) ?_
          refine gx_goto X (tgt := 99) dX1_writeBody_95 (by decide) ?_
          refine gx_kv (gx_rV X (c_X0_addTimes h) (Nat.le_trans (by decide) hd) (Nat.le_trans (by decide) (Nat.mul_le_mul_left 40 hd)) k16 rfl mw_214 mw_215 mw_216 mw_2 mw_217 hyX0_addTimes (As := [.int (32 : Int32), .int (1 : Int32)]) (rest := []) rfl rfl (Nat.le_of_ble_eq_true rfl) dX1_writeBody_99) (fun u21 h => ?_)
          refine gx_aload_n X (j := 3) dX1_writeBody_102 rfl rfl ?_
          refine gx_iload X (j := 0) dX1_writeBody_103 rfl ?_
          refine gx_kv (gx_rV X (c_X0_add h) (Nat.le_trans (by decide) hd) (Nat.le_trans (by decide) (Nat.mul_le_mul_left 40 hd)) k16 rfl mw_218 mw_136 mw_137 mw_2 mw_138 hyX0_add (As := [.int r15]) (rest := []) rfl rfl (Nat.le_of_ble_eq_true rfl) dX1_writeBody_105) (fun u22 h => ?_)
          refine gx_iconst X (v := 0) dX1_writeBody_108 (by decide) ?_
          refine gx_istore_n X (lv' := [(3, .int (0 : Int32)), (6, .int r15), (0, .ref (ex_ad E v0)), (1, .int v1), (2, .ref (ex_ad E v2)), (4, .int v4), (5, .int v5)]) dX1_writeBody_109 rfl (by decide) rfl ?_
          refine gx_iconst X (v := 0) dX1_writeBody_110 (by decide) ?_
          refine gx_istore X (lv' := [(4, .int (0 : Int32)), (3, .int (0 : Int32)), (6, .int r15), (0, .ref (ex_ad E v0)), (1, .int v1), (2, .ref (ex_ad E v2)), (5, .int v5)]) dX1_writeBody_111 (by decide) rfl ?_
          obtain ⟨x23, ex23⟩ : ∃ y : Int32, y = v5 + 1 := ⟨_, rfl⟩
          replace h := h x23 ex23
          refine gx_iinc X (v := x23) (lv' := [(5, .int x23), (4, .int (0 : Int32)), (3, .int (0 : Int32)), (6, .int r15), (0, .ref (ex_ad E v0)), (1, .int v1), (2, .ref (ex_ad E v2))]) dX1_writeBody_113 (j := 6) rfl (by rw [ex23]; rfl) (by decide) rfl ?_
          refine gx_goto X (tgt := 22) dX1_writeBody_116 (by decide) ?_
          exact gx_sub [4, 5, 6, 2, 1, 0] rfl h
      · replace h := h.2 c38
        refine gx_iload X (j := 0) dX1_writeBody_65 rfl ?_
        refine gx_ki (gx_rSN X (c_X6_isWhite h) (Nat.le_trans (by decide) hd) (Nat.le_trans (by decide) (Nat.mul_le_mul_left 40 hd)) mn_3 mw_185 mw_1 mw_186 hyX6_isWhite (As := [.int r15]) (rest := []) rfl rfl (Nat.le_of_ble_eq_true rfl) dX1_writeBody_67) (fun r26 u25 h => ?_)
        refine gx_if_eq X (tgt := 79) dX1_writeBody_70 (by decide) (fun c37 => ?_) (fun c37 => ?_)
        · replace h := h.1 c37
          refine gx_aload_n X (j := 3) dX1_writeBody_79 rfl rfl ?_
          refine gx_bipush X (v := 10) dX1_writeBody_80 (by decide) ?_
          refine gx_iload_n X (j := 4) dX1_writeBody_82 rfl rfl ?_
          obtain ⟨k27, h⟩ := h
          refine gx_kv (gx_rV X (c_X0_addTimes h) (Nat.le_trans (by decide) hd) (Nat.le_trans (by decide) (Nat.mul_le_mul_left 40 hd)) k27 rfl mw_214 mw_215 mw_216 mw_2 mw_217 hyX0_addTimes (As := [.int (10 : Int32), .int v3]) (rest := []) rfl rfl (Nat.le_of_ble_eq_true rfl) dX1_writeBody_83) (fun u28 h => ?_)
          refine gx_aload_n X (j := 3) dX1_writeBody_86 rfl rfl ?_
          refine gx_bipush X (v := 32) dX1_writeBody_87 (by decide) ?_
          refine gx_iload X (j := 5) dX1_writeBody_89 rfl ?_
          refine gx_if_eq X (tgt := 98) dX1_writeBody_91 (by decide) (fun c35 => ?_) (fun c35 => ?_)
          · replace h := h.1 c35
            refine gx_iconst X (v := 0) dX1_writeBody_98 (by decide) ?_
            refine gx_kv (gx_rV X (c_X0_addTimes h) (Nat.le_trans (by decide) hd) (Nat.le_trans (by decide) (Nat.mul_le_mul_left 40 hd)) k27 rfl mw_214 mw_215 mw_216 mw_2 mw_217 hyX0_addTimes (As := [.int (32 : Int32), .int (0 : Int32)]) (rest := []) rfl rfl (Nat.le_of_ble_eq_true rfl) dX1_writeBody_99) (fun u29 h => ?_)
            refine gx_aload_n X (j := 3) dX1_writeBody_102 rfl rfl ?_
            refine gx_iload X (j := 0) dX1_writeBody_103 rfl ?_
            refine gx_kv (gx_rV X (c_X0_add h) (Nat.le_trans (by decide) hd) (Nat.le_trans (by decide) (Nat.mul_le_mul_left 40 hd)) k27 rfl mw_218 mw_136 mw_137 mw_2 mw_138 hyX0_add (As := [.int r15]) (rest := []) rfl rfl (Nat.le_of_ble_eq_true rfl) dX1_writeBody_105) (fun u30 h => ?_)
            refine gx_iconst X (v := 0) dX1_writeBody_108 (by decide) ?_
            refine gx_istore_n X (lv' := [(3, .int (0 : Int32)), (6, .int r15), (0, .ref (ex_ad E v0)), (1, .int v1), (2, .ref (ex_ad E v2)), (4, .int v4), (5, .int v5)]) dX1_writeBody_109 rfl (by decide) rfl ?_
            refine gx_iconst X (v := 0) dX1_writeBody_110 (by decide) ?_
            refine gx_istore X (lv' := [(4, .int (0 : Int32)), (3, .int (0 : Int32)), (6, .int r15), (0, .ref (ex_ad E v0)), (1, .int v1), (2, .ref (ex_ad E v2)), (5, .int v5)]) dX1_writeBody_111 (by decide) rfl ?_
            obtain ⟨x31, ex31⟩ : ∃ y : Int32, y = v5 + 1 := ⟨_, rfl⟩
            replace h := h x31 ex31
            refine gx_iinc X (v := x31) (lv' := [(5, .int x31), (4, .int (0 : Int32)), (3, .int (0 : Int32)), (6, .int r15), (0, .ref (ex_ad E v0)), (1, .int v1), (2, .ref (ex_ad E v2))]) dX1_writeBody_113 (j := 6) rfl (by rw [ex31]; rfl) (by decide) rfl ?_
            refine gx_goto X (tgt := 22) dX1_writeBody_116 (by decide) ?_
            exact gx_sub [4, 5, 6, 2, 1, 0] rfl h
          · replace h := h.2 c35
            refine gx_iconst X (v := 1) dX1_writeBody_94 (by decide) ?_
            refine gx_goto X (tgt := 99) dX1_writeBody_95 (by decide) ?_
            refine gx_kv (gx_rV X (c_X0_addTimes h) (Nat.le_trans (by decide) hd) (Nat.le_trans (by decide) (Nat.mul_le_mul_left 40 hd)) k27 rfl mw_214 mw_215 mw_216 mw_2 mw_217 hyX0_addTimes (As := [.int (32 : Int32), .int (1 : Int32)]) (rest := []) rfl rfl (Nat.le_of_ble_eq_true rfl) dX1_writeBody_99) (fun u32 h => ?_)
            refine gx_aload_n X (j := 3) dX1_writeBody_102 rfl rfl ?_
            refine gx_iload X (j := 0) dX1_writeBody_103 rfl ?_
            refine gx_kv (gx_rV X (c_X0_add h) (Nat.le_trans (by decide) hd) (Nat.le_trans (by decide) (Nat.mul_le_mul_left 40 hd)) k27 rfl mw_218 mw_136 mw_137 mw_2 mw_138 hyX0_add (As := [.int r15]) (rest := []) rfl rfl (Nat.le_of_ble_eq_true rfl) dX1_writeBody_105) (fun u33 h => ?_)
            refine gx_iconst X (v := 0) dX1_writeBody_108 (by decide) ?_
            refine gx_istore_n X (lv' := [(3, .int (0 : Int32)), (6, .int r15), (0, .ref (ex_ad E v0)), (1, .int v1), (2, .ref (ex_ad E v2)), (4, .int v4), (5, .int v5)]) dX1_writeBody_109 rfl (by decide) rfl ?_
            refine gx_iconst X (v := 0) dX1_writeBody_110 (by decide) ?_
            refine gx_istore X (lv' := [(4, .int (0 : Int32)), (3, .int (0 : Int32)), (6, .int r15), (0, .ref (ex_ad E v0)), (1, .int v1), (2, .ref (ex_ad E v2)), (5, .int v5)]) dX1_writeBody_111 (by decide) rfl ?_
            obtain ⟨x34, ex34⟩ : ∃ y : Int32, y = v5 + 1 := ⟨_, rfl⟩
            replace h := h x34 ex34
            refine gx_iinc X (v := x34) (lv' := [(5, .int x34), (4, .int (0 : Int32)), (3, .int (0 : Int32)), (6, .int r15), (0, .ref (ex_ad E v0)), (1, .int v1), (2, .ref (ex_ad E v2))]) dX1_writeBody_113 (j := 6) rfl (by rw [ex34]; rfl) (by decide) rfl ?_
            refine gx_goto X (tgt := 22) dX1_writeBody_116 (by decide) ?_
            exact gx_sub [4, 5, 6, 2, 1, 0] rfl h
        · replace h := h.2 c37
          refine gx_iconst X (v := 1) dX1_writeBody_73 (by decide) ?_
          refine gx_istore X (lv' := [(4, .int (1 : Int32)), (6, .int r15), (0, .ref (ex_ad E v0)), (1, .int v1), (2, .ref (ex_ad E v2)), (3, .int v3), (5, .int v5)]) dX1_writeBody_74 (by decide) rfl ?_
          refine gx_goto X (tgt := 113) dX1_writeBody_76 (by decide) ?_
          obtain ⟨x36, ex36⟩ : ∃ y : Int32, y = v5 + 1 := ⟨_, rfl⟩
          replace h := h x36 ex36
          refine gx_iinc X (v := x36) (lv' := [(5, .int x36), (4, .int (1 : Int32)), (6, .int r15), (0, .ref (ex_ad E v0)), (1, .int v1), (2, .ref (ex_ad E v2)), (3, .int v3)]) dX1_writeBody_113 (j := 6) rfl (by rw [ex36]; rfl) (by decide) rfl ?_
          refine gx_goto X (tgt := 22) dX1_writeBody_116 (by decide) ?_
          exact gx_sub [3, 4, 5, 6, 1, 0] rfl h
    · replace h := h.2 c41
      obtain ⟨x39, ex39⟩ : ∃ y : Int32, y = v3 + 1 := ⟨_, rfl⟩
      replace h := h x39 ex39
      refine gx_iinc X (v := x39) (lv' := [(3, .int x39), (6, .int r15), (0, .ref (ex_ad E v0)), (1, .int v1), (2, .ref (ex_ad E v2)), (4, .int v4), (5, .int v5)]) dX1_writeBody_52 (j := 4) rfl (by rw [ex39]; rfl) (by decide) rfl ?_
      refine gx_iconst X (v := 0) dX1_writeBody_55 (by decide) ?_
      refine gx_istore X (lv' := [(4, .int (0 : Int32)), (3, .int x39), (6, .int r15), (0, .ref (ex_ad E v0)), (1, .int v1), (2, .ref (ex_ad E v2)), (5, .int v5)]) dX1_writeBody_56 (by decide) rfl ?_
      refine gx_goto X (tgt := 113) dX1_writeBody_58 (by decide) ?_
      obtain ⟨x40, ex40⟩ : ∃ y : Int32, y = v5 + 1 := ⟨_, rfl⟩
      replace h := h x40 ex40
      refine gx_iinc X (v := x40) (lv' := [(5, .int x40), (4, .int (0 : Int32)), (3, .int x39), (6, .int r15), (0, .ref (ex_ad E v0)), (1, .int v1), (2, .ref (ex_ad E v2))]) dX1_writeBody_113 (j := 6) rfl (by rw [ex40]; rfl) (by decide) rfl ?_
      refine gx_goto X (tgt := 22) dX1_writeBody_116 (by decide) ?_
      exact gx_sub [4, 5, 6, 2, 1, 0] rfl h
-- PlainSeal$Mail.addRelaxedValue(IILPlainSeal$Bytes;)V
theorem dX1_addRelaxedValue_0 : decode cX1_addRelaxedValue 0 = .ok (.aload_n 3, 1) := by decide +kernel
theorem dX1_addRelaxedValue_1 : decode cX1_addRelaxedValue 1 = .ok (.invokevirtual 45, 3) := by decide +kernel
theorem dX1_addRelaxedValue_4 : decode cX1_addRelaxedValue 4 = .ok (.istore 4, 2) := by decide +kernel
theorem dX1_addRelaxedValue_6 : decode cX1_addRelaxedValue 6 = .ok (.iconst 0, 1) := by decide +kernel
theorem dX1_addRelaxedValue_7 : decode cX1_addRelaxedValue 7 = .ok (.istore 5, 2) := by decide +kernel
theorem dX1_addRelaxedValue_9 : decode cX1_addRelaxedValue 9 = .ok (.iload_n 1, 1) := by decide +kernel
theorem dX1_addRelaxedValue_10 : decode cX1_addRelaxedValue 10 = .ok (.istore 6, 2) := by decide +kernel
theorem dX1_addRelaxedValue_12 : decode cX1_addRelaxedValue 12 = .ok (.iload 6, 2) := by decide +kernel
theorem dX1_addRelaxedValue_14 : decode cX1_addRelaxedValue 14 = .ok (.iload_n 2, 1) := by decide +kernel
theorem dX1_addRelaxedValue_15 : decode cX1_addRelaxedValue 15 = .ok (.if_icmp .ge 75, 3) := by decide +kernel
theorem dX1_addRelaxedValue_18 : decode cX1_addRelaxedValue 18 = .ok (.aload_n 0, 1) := by decide +kernel
theorem dX1_addRelaxedValue_19 : decode cX1_addRelaxedValue 19 = .ok (.getfield 12, 3) := by decide +kernel
theorem dX1_addRelaxedValue_22 : decode cX1_addRelaxedValue 22 = .ok (.iload 6, 2) := by decide +kernel
theorem dX1_addRelaxedValue_24 : decode cX1_addRelaxedValue 24 = .ok (.invokevirtual 49, 3) := by decide +kernel
theorem dX1_addRelaxedValue_27 : decode cX1_addRelaxedValue 27 = .ok (.istore 7, 2) := by decide +kernel
theorem dX1_addRelaxedValue_29 : decode cX1_addRelaxedValue 29 = .ok (.iload 7, 2) := by decide +kernel
theorem dX1_addRelaxedValue_31 : decode cX1_addRelaxedValue 31 = .ok (.invokestatic 66, 3) := by decide +kernel
theorem dX1_addRelaxedValue_34 : decode cX1_addRelaxedValue 34 = .ok (.ifCond .eq 9, 3) := by decide +kernel
theorem dX1_addRelaxedValue_37 : decode cX1_addRelaxedValue 37 = .ok (.iconst 1, 1) := by decide +kernel
theorem dX1_addRelaxedValue_38 : decode cX1_addRelaxedValue 38 = .ok (.istore 5, 2) := by decide +kernel
theorem dX1_addRelaxedValue_40 : decode cX1_addRelaxedValue 40 = .ok (.goto 44, 3) := by decide +kernel
theorem dX1_addRelaxedValue_43 : decode cX1_addRelaxedValue 43 = .ok (.iload 7, 2) := by decide +kernel
theorem dX1_addRelaxedValue_45 : decode cX1_addRelaxedValue 45 = .ok (.bipush 10, 2) := by decide +kernel
theorem dX1_addRelaxedValue_47 : decode cX1_addRelaxedValue 47 = .ok (.if_icmp .eq 37, 3) := by decide +kernel
theorem dX1_addRelaxedValue_50 : decode cX1_addRelaxedValue 50 = .ok (.aload_n 3, 1) := by decide +kernel
theorem dX1_addRelaxedValue_51 : decode cX1_addRelaxedValue 51 = .ok (.bipush 32, 2) := by decide +kernel
theorem dX1_addRelaxedValue_53 : decode cX1_addRelaxedValue 53 = .ok (.iload 5, 2) := by decide +kernel
theorem dX1_addRelaxedValue_55 : decode cX1_addRelaxedValue 55 = .ok (.ifCond .eq 16, 3) := by decide +kernel
theorem dX1_addRelaxedValue_58 : decode cX1_addRelaxedValue 58 = .ok (.aload_n 3, 1) := by decide +kernel
theorem dX1_addRelaxedValue_59 : decode cX1_addRelaxedValue 59 = .ok (.invokevirtual 45, 3) := by decide +kernel
theorem dX1_addRelaxedValue_62 : decode cX1_addRelaxedValue 62 = .ok (.iload 4, 2) := by decide +kernel
theorem dX1_addRelaxedValue_64 : decode cX1_addRelaxedValue 64 = .ok (.if_icmp .le 7, 3) := by decide +kernel
theorem dX1_addRelaxedValue_67 : decode cX1_addRelaxedValue 67 = .ok (.iconst 1, 1) := by decide +kernel
theorem dX1_addRelaxedValue_68 : decode cX1_addRelaxedValue 68 = .ok (.goto 4, 3) := by decide +kernel
theorem dX1_addRelaxedValue_71 : decode cX1_addRelaxedValue 71 = .ok (.iconst 0, 1) := by decide +kernel
theorem dX1_addRelaxedValue_72 : decode cX1_addRelaxedValue 72 = .ok (.invokevirtual 79, 3) := by decide +kernel
theorem dX1_addRelaxedValue_75 : decode cX1_addRelaxedValue 75 = .ok (.aload_n 3, 1) := by decide +kernel
theorem dX1_addRelaxedValue_76 : decode cX1_addRelaxedValue 76 = .ok (.iload 7, 2) := by decide +kernel
theorem dX1_addRelaxedValue_78 : decode cX1_addRelaxedValue 78 = .ok (.invokevirtual 83, 3) := by decide +kernel
theorem dX1_addRelaxedValue_81 : decode cX1_addRelaxedValue 81 = .ok (.iconst 0, 1) := by decide +kernel
theorem dX1_addRelaxedValue_82 : decode cX1_addRelaxedValue 82 = .ok (.istore 5, 2) := by decide +kernel
theorem dX1_addRelaxedValue_84 : decode cX1_addRelaxedValue 84 = .ok (.iinc 6 1, 3) := by decide +kernel
theorem dX1_addRelaxedValue_87 : decode cX1_addRelaxedValue 87 = .ok (.goto (-75), 3) := by decide +kernel
theorem dX1_addRelaxedValue_90 : decode cX1_addRelaxedValue 90 = .ok (.return_, 1) := by decide +kernel
theorem hyX1_addRelaxedValue : yX1_addRelaxedValue.cls ≠ "java/lang/invoke/MethodHandle" ∧ yX1_addRelaxedValue.cls ≠ "java/lang/invoke/VarHandle" ∧ (parseMethodDescriptor yX1_addRelaxedValue.desc).map (fun d => d.parameters.length) = some 3 := by decide +kernel
abbrev J_X1_addRelaxedValue_12 (E : gx_E) (v0 : Nat) (v1 : Int32) (v2 : Int32) (v3 : Nat) (v4 : Int32) (v5 : Int32) (v6 : Int32) (u : gx_S) : Prop := gx_Wc E 8 12 [(0, .ref (ex_ad E v0)), (1, .int v1), (2, .int v2), (3, .ref (ex_ad E v3)), (4, .int v4), (5, .int v5), (6, .int v6)] [] u
set_option maxHeartbeats 4000000 in
set_option maxRecDepth 100000 in
theorem w_X1_addRelaxedValue_0 {E : gx_E} (X : gx_X E cX1_addRelaxedValue 8 RX1 none) (hd : 2 ≤ ex_d E) {post : gx_S → Prop} (hQ : ex_Q E = va_Qv post (gx_B (ex_Z E)) (gx_A (ex_Z E))) {u : gx_S} {v0 : Nat} {v1 : Int32} {v2 : Int32} {v3 : Nat} (h : (gx_isO v3 0 ∧ S_X0_size u v3 (fun (r3 : Int32) (u2 : gx_S) => J_X1_addRelaxedValue_12 E v0 v1 v2 v3 r3 (0 : Int32) v1 u2))) : gx_Wc E 8 0 [(0, .ref (ex_ad E v0)), (1, .int v1), (2, .int v2), (3, .ref (ex_ad E v3))] [] u := by
  refine gx_aload_n X (j := 3) dX1_addRelaxedValue_0 rfl rfl ?_
  obtain ⟨k1, h⟩ := h
  refine gx_ki (gx_rV X (c_X0_size h) (Nat.le_trans (by decide) hd) (Nat.le_trans (by decide) (Nat.mul_le_mul_left 40 hd)) k1 rfl mw_161 mw_128 mw_129 mw_2 mw_130 hyX0_size (As := []) (rest := []) rfl rfl (Nat.le_of_ble_eq_true rfl) dX1_addRelaxedValue_1) (fun r3 u2 h => ?_)
  refine gx_istore X (lv' := [(4, .int r3), (0, .ref (ex_ad E v0)), (1, .int v1), (2, .int v2), (3, .ref (ex_ad E v3))]) dX1_addRelaxedValue_4 (by decide) rfl ?_
  refine gx_iconst X (v := 0) dX1_addRelaxedValue_6 (by decide) ?_
  refine gx_istore X (lv' := [(5, .int (0 : Int32)), (4, .int r3), (0, .ref (ex_ad E v0)), (1, .int v1), (2, .int v2), (3, .ref (ex_ad E v3))]) dX1_addRelaxedValue_7 (by decide) rfl ?_
  refine gx_iload_n X (j := 3) dX1_addRelaxedValue_9 rfl rfl ?_
  refine gx_istore X (lv' := [(6, .int v1), (5, .int (0 : Int32)), (4, .int r3), (0, .ref (ex_ad E v0)), (1, .int v1), (2, .int v2), (3, .ref (ex_ad E v3))]) dX1_addRelaxedValue_10 (by decide) rfl ?_
  exact gx_sub [3, 4, 5, 6, 2, 1, 0] rfl h
set_option maxHeartbeats 4000000 in
set_option maxRecDepth 100000 in
theorem w_X1_addRelaxedValue_12 {E : gx_E} (X : gx_X E cX1_addRelaxedValue 8 RX1 none) (hd : 2 ≤ ex_d E) {post : gx_S → Prop} (hQ : ex_Q E = va_Qv post (gx_B (ex_Z E)) (gx_A (ex_Z E))) {u : gx_S} {v0 : Nat} {v1 : Int32} {v2 : Int32} {v3 : Nat} {v4 : Int32} {v5 : Int32} {v6 : Int32} (h : ((v2 ≤ v6 → post u) ∧ (¬ v2 ≤ v6 → (gx_isO v0 1 ∧ (gx_isO (gx_r u v0 0) 0 ∧ S_X0_at u (gx_r u v0 0) v6 (fun (r4 : Int32) (u3 : gx_S) => (S_X6_isWhite u3 r4 (fun (r6 : Int32) (u5 : gx_S) => ((r6 = 0 → ((r4 = (10 : Int32) → (∀ x7 : Int32, x7 = v6 + 1 → J_X1_addRelaxedValue_12 E v0 v1 v2 v3 v4 v5 x7 u5)) ∧ (¬ r4 = (10 : Int32) → ((v5 = 0 → (gx_isO v3 0 ∧ S_X0_addTimes u5 v3 (32 : Int32) (0 : Int32) (fun (u9 : gx_S) => (S_X0_add u9 v3 r4 (fun (u10 : gx_S) => (∀ x11 : Int32, x11 = v6 + 1 → J_X1_addRelaxedValue_12 E v0 v1 v2 v3 v4 (0 : Int32) x11 u10)))))) ∧ (¬ v5 = 0 → (gx_isO v3 0 ∧ S_X0_size u5 v3 (fun (r14 : Int32) (u13 : gx_S) => ((r14 ≤ v4 → (S_X0_addTimes u13 v3 (32 : Int32) (0 : Int32) (fun (u15 : gx_S) => (S_X0_add u15 v3 r4 (fun (u16 : gx_S) => (∀ x17 : Int32, x17 = v6 + 1 → J_X1_addRelaxedValue_12 E v0 v1 v2 v3 v4 (0 : Int32) x17 u16)))))) ∧ (¬ r14 ≤ v4 → (S_X0_addTimes u13 v3 (32 : Int32) (1 : Int32) (fun (u18 : gx_S) => (S_X0_add u18 v3 r4 (fun (u19 : gx_S) => (∀ x20 : Int32, x20 = v6 + 1 → J_X1_addRelaxedValue_12 E v0 v1 v2 v3 v4 (0 : Int32) x20 u19)))))))))))))) ∧ (¬ r6 = 0 → (∀ x24 : Int32, x24 = v6 + 1 → J_X1_addRelaxedValue_12 E v0 v1 v2 v3 v4 (1 : Int32) x24 u5))))))))))) : gx_Wc E 8 12 [(0, .ref (ex_ad E v0)), (1, .int v1), (2, .int v2), (3, .ref (ex_ad E v3)), (4, .int v4), (5, .int v5), (6, .int v6)] [] u := by
  refine gx_iload X (j := 6) dX1_addRelaxedValue_12 rfl ?_
  refine gx_iload_n X (j := 2) dX1_addRelaxedValue_14 rfl rfl ?_
  refine gx_icmp_ge X (tgt := 90) dX1_addRelaxedValue_15 (by decide) (fun c26 => ?_) (fun c26 => ?_)
  · replace h := h.1 c26
    exact gx_vret X hQ h dX1_addRelaxedValue_90
  · replace h := h.2 c26
    refine gx_aload_n X (j := 0) dX1_addRelaxedValue_18 rfl rfl ?_
    obtain ⟨k1, h⟩ := h
    refine gx_get X k1 rfl iwX1 0 (by decide) mw_46 (v := .ref (ex_ad E (gx_r u v0 0))) rfl dX1_addRelaxedValue_19 ?_
    refine gx_iload X (j := 6) dX1_addRelaxedValue_22 rfl ?_
    obtain ⟨k2, h⟩ := h
    refine gx_ki (gx_rV X (c_X0_at h) (Nat.le_trans (by decide) hd) (Nat.le_trans (by decide) (Nat.mul_le_mul_left 40 hd)) k2 rfl mw_162 mw_163 mw_164 mw_2 mw_165 hyX0_at (As := [.int v6]) (rest := []) rfl rfl (Nat.le_of_ble_eq_true rfl) dX1_addRelaxedValue_24) (fun r4 u3 h => ?_)
    refine gx_istore X (lv' := [(7, .int r4), (0, .ref (ex_ad E v0)), (1, .int v1), (2, .int v2), (3, .ref (ex_ad E v3)), (4, .int v4), (5, .int v5), (6, .int v6)]) dX1_addRelaxedValue_27 (by decide) rfl ?_
    refine gx_iload X (j := 0) dX1_addRelaxedValue_29 rfl ?_
    refine gx_ki (gx_rSN X (c_X6_isWhite h) (Nat.le_trans (by decide) hd) (Nat.le_trans (by decide) (Nat.mul_le_mul_left 40 hd)) mn_3 mw_185 mw_1 mw_186 hyX6_isWhite (As := [.int r4]) (rest := []) rfl rfl (Nat.le_of_ble_eq_true rfl) dX1_addRelaxedValue_31) (fun r6 u5 h => ?_)
    refine gx_if_eq X (tgt := 43) dX1_addRelaxedValue_34 (by decide) (fun c25 => ?_) (fun c25 => ?_)
    · replace h := h.1 c25
      refine gx_iload X (j := 0) dX1_addRelaxedValue_43 rfl ?_
      refine gx_bipush X (v := 10) dX1_addRelaxedValue_45 (by decide) ?_
      refine gx_icmp_eq X (tgt := 84) dX1_addRelaxedValue_47 (by decide) (fun c23 => ?_) (fun c23 => ?_)
      · replace h := h.1 c23
        obtain ⟨x7, ex7⟩ : ∃ y : Int32, y = v6 + 1 := ⟨_, rfl⟩
        replace h := h x7 ex7
        refine gx_iinc X (v := x7) (lv' := [(6, .int x7), (7, .int r4), (0, .ref (ex_ad E v0)), (1, .int v1), (2, .int v2), (3, .ref (ex_ad E v3)), (4, .int v4), (5, .int v5)]) dX1_addRelaxedValue_84 (j := 7) rfl (by rw [ex7]; rfl) (by decide) rfl ?_
        refine gx_goto X (tgt := 12) dX1_addRelaxedValue_87 (by decide) ?_
        exact gx_sub [2, 3, 4, 5, 6, 7, 0] rfl h
      · replace h := h.2 c23
        refine gx_aload_n X (j := 4) dX1_addRelaxedValue_50 rfl rfl ?_
        refine gx_bipush X (v := 32) dX1_addRelaxedValue_51 (by decide) ?_
        refine gx_iload X (j := 6) dX1_addRelaxedValue_53 rfl ?_
        refine gx_if_eq X (tgt := 71) dX1_addRelaxedValue_55 (by decide) (fun c22 => ?_) (fun c22 => ?_)
        · replace h := h.1 c22
          refine gx_iconst X (v := 0) dX1_addRelaxedValue_71 (by decide) ?_
          obtain ⟨k8, h⟩ := h
          refine gx_kv (gx_rV X (c_X0_addTimes h) (Nat.le_trans (by decide) hd) (Nat.le_trans (by decide) (Nat.mul_le_mul_left 40 hd)) k8 rfl mw_214 mw_215 mw_216 mw_2 mw_217 hyX0_addTimes (As := [.int (32 : Int32), .int (0 : Int32)]) (rest := []) rfl rfl (Nat.le_of_ble_eq_true rfl) dX1_addRelaxedValue_72) (fun u9 h => ?_)
          refine gx_aload_n X (j := 4) dX1_addRelaxedValue_75 rfl rfl ?_
          refine gx_iload X (j := 0) dX1_addRelaxedValue_76 rfl ?_
          refine gx_kv (gx_rV X (c_X0_add h) (Nat.le_trans (by decide) hd) (Nat.le_trans (by decide) (Nat.mul_le_mul_left 40 hd)) k8 rfl mw_218 mw_136 mw_137 mw_2 mw_138 hyX0_add (As := [.int r4]) (rest := []) rfl rfl (Nat.le_of_ble_eq_true rfl) dX1_addRelaxedValue_78) (fun u10 h => ?_)
          refine gx_iconst X (v := 0) dX1_addRelaxedValue_81 (by decide) ?_
          refine gx_istore X (lv' := [(5, .int (0 : Int32)), (7, .int r4), (0, .ref (ex_ad E v0)), (1, .int v1), (2, .int v2), (3, .ref (ex_ad E v3)), (4, .int v4), (6, .int v6)]) dX1_addRelaxedValue_82 (by decide) rfl ?_
          obtain ⟨x11, ex11⟩ : ∃ y : Int32, y = v6 + 1 := ⟨_, rfl⟩
          replace h := h x11 ex11
          refine gx_iinc X (v := x11) (lv' := [(6, .int x11), (5, .int (0 : Int32)), (7, .int r4), (0, .ref (ex_ad E v0)), (1, .int v1), (2, .int v2), (3, .ref (ex_ad E v3)), (4, .int v4)]) dX1_addRelaxedValue_84 (j := 7) rfl (by rw [ex11]; rfl) (by decide) rfl ?_
          refine gx_goto X (tgt := 12) dX1_addRelaxedValue_87 (by decide) ?_
          exact gx_sub [3, 4, 5, 6, 7, 1, 0] rfl h
        · replace h := h.2 c22
          refine gx_aload_n X (j := 4) dX1_addRelaxedValue_58 rfl rfl ?_
          obtain ⟨k12, h⟩ := h
          refine gx_ki (gx_rV X (c_X0_size h) (Nat.le_trans (by decide) hd) (Nat.le_trans (by decide) (Nat.mul_le_mul_left 40 hd)) k12 rfl mw_161 mw_128 mw_129 mw_2 mw_130 hyX0_size (As := []) (rest := [.int (32 : Int32), .ref (ex_ad E v3)]) rfl rfl (Nat.le_of_ble_eq_true rfl) dX1_addRelaxedValue_59) (fun r14 u13 h => ?_)
          refine gx_iload X (j := 5) dX1_addRelaxedValue_62 rfl ?_
          refine gx_icmp_le X (tgt := 71) dX1_addRelaxedValue_64 (by decide) (fun c21 => ?_) (fun c21 => ?_)
          · replace h := h.1 c21
            refine gx_iconst X (v := 0) dX1_addRelaxedValue_71 (by decide) ?_
            refine gx_kv (gx_rV X (c_X0_addTimes h) (Nat.le_trans (by decide) hd) (Nat.le_trans (by decide) (Nat.mul_le_mul_left 40 hd)) k12 rfl mw_214 mw_215 mw_216 mw_2 mw_217 hyX0_addTimes (As := [.int (32 : Int32), .int (0 : Int32)]) (rest := []) rfl rfl (Nat.le_of_ble_eq_true rfl) dX1_addRelaxedValue_72) (fun u15 h => ?_)
            refine gx_aload_n X (j := 4) dX1_addRelaxedValue_75 rfl rfl ?_
            refine gx_iload X (j := 0) dX1_addRelaxedValue_76 rfl ?_
            refine gx_kv (gx_rV X (c_X0_add h) (Nat.le_trans (by decide) hd) (Nat.le_trans (by decide) (Nat.mul_le_mul_left 40 hd)) k12 rfl mw_218 mw_136 mw_137 mw_2 mw_138 hyX0_add (As := [.int r4]) (rest := []) rfl rfl (Nat.le_of_ble_eq_true rfl) dX1_addRelaxedValue_78) (fun u16 h => ?_)
            refine gx_iconst X (v := 0) dX1_addRelaxedValue_81 (by decide) ?_
            refine gx_istore X (lv' := [(5, .int (0 : Int32)), (7, .int r4), (0, .ref (ex_ad E v0)), (1, .int v1), (2, .int v2), (3, .ref (ex_ad E v3)), (4, .int v4), (6, .int v6)]) dX1_addRelaxedValue_82 (by decide) rfl ?_
            obtain ⟨x17, ex17⟩ : ∃ y : Int32, y = v6 + 1 := ⟨_, rfl⟩
            replace h := h x17 ex17
            refine gx_iinc X (v := x17) (lv' := [(6, .int x17), (5, .int (0 : Int32)), (7, .int r4), (0, .ref (ex_ad E v0)), (1, .int v1), (2, .int v2), (3, .ref (ex_ad E v3)), (4, .int v4)]) dX1_addRelaxedValue_84 (j := 7) rfl (by rw [ex17]; rfl) (by decide) rfl ?_
            refine gx_goto X (tgt := 12) dX1_addRelaxedValue_87 (by decide) ?_
            exact gx_sub [3, 4, 5, 6, 7, 1, 0] rfl h
          · replace h := h.2 c21
            refine gx_iconst X (v := 1) dX1_addRelaxedValue_67 (by decide) ?_
            refine gx_goto X (tgt := 72) dX1_addRelaxedValue_68 (by decide) ?_
            refine gx_kv (gx_rV X (c_X0_addTimes h) (Nat.le_trans (by decide) hd) (Nat.le_trans (by decide) (Nat.mul_le_mul_left 40 hd)) k12 rfl mw_214 mw_215 mw_216 mw_2 mw_217 hyX0_addTimes (As := [.int (32 : Int32), .int (1 : Int32)]) (rest := []) rfl rfl (Nat.le_of_ble_eq_true rfl) dX1_addRelaxedValue_72) (fun u18 h => ?_)
            refine gx_aload_n X (j := 4) dX1_addRelaxedValue_75 rfl rfl ?_
            refine gx_iload X (j := 0) dX1_addRelaxedValue_76 rfl ?_
            refine gx_kv (gx_rV X (c_X0_add h) (Nat.le_trans (by decide) hd) (Nat.le_trans (by decide) (Nat.mul_le_mul_left 40 hd)) k12 rfl mw_218 mw_136 mw_137 mw_2 mw_138 hyX0_add (As := [.int r4]) (rest := []) rfl rfl (Nat.le_of_ble_eq_true rfl) dX1_addRelaxedValue_78) (fun u19 h => ?_)
            refine gx_iconst X (v := 0) dX1_addRelaxedValue_81 (by decide) ?_
            refine gx_istore X (lv' := [(5, .int (0 : Int32)), (7, .int r4), (0, .ref (ex_ad E v0)), (1, .int v1), (2, .int v2), (3, .ref (ex_ad E v3)), (4, .int v4), (6, .int v6)]) dX1_addRelaxedValue_82 (by decide) rfl ?_
            obtain ⟨x20, ex20⟩ : ∃ y : Int32, y = v6 + 1 := ⟨_, rfl⟩
            replace h := h x20 ex20
            refine gx_iinc X (v := x20) (lv' := [(6, .int x20), (5, .int (0 : Int32)), (7, .int r4), (0, .ref (ex_ad E v0)), (1, .int v1), (2, .int v2), (3, .ref (ex_ad E v3)), (4, .int v4)]) dX1_addRelaxedValue_84 (j := 7) rfl (by rw [ex20]; rfl) (by decide) rfl ?_
            refine gx_goto X (tgt := 12) dX1_addRelaxedValue_87 (by decide) ?_
            exact gx_sub [3, 4, 5, 6, 7, 1, 0] rfl h
    · replace h := h.2 c25
      refine gx_iconst X (v := 1) dX1_addRelaxedValue_37 (by decide) ?_
      refine gx_istore X (lv' := [(5, .int (1 : Int32)), (7, .int r4), (0, .ref (ex_ad E v0)), (1, .int v1), (2, .int v2), (3, .ref (ex_ad E v3)), (4, .int v4), (6, .int v6)]) dX1_addRelaxedValue_38 (by decide) rfl ?_
      refine gx_goto X (tgt := 84) dX1_addRelaxedValue_40 (by decide) ?_
      obtain ⟨x24, ex24⟩ : ∃ y : Int32, y = v6 + 1 := ⟨_, rfl⟩
      replace h := h x24 ex24
      refine gx_iinc X (v := x24) (lv' := [(6, .int x24), (5, .int (1 : Int32)), (7, .int r4), (0, .ref (ex_ad E v0)), (1, .int v1), (2, .int v2), (3, .ref (ex_ad E v3)), (4, .int v4)]) dX1_addRelaxedValue_84 (j := 7) rfl (by rw [ex24]; rfl) (by decide) rfl ?_
      refine gx_goto X (tgt := 12) dX1_addRelaxedValue_87 (by decide) ?_
      exact gx_sub [3, 4, 5, 6, 7, 1, 0] rfl h
-- PlainSeal$Mail.writeSimpleField(ILPlainSeal$Bytes;)V
theorem dX1_writeSimpleField_0 : decode cX1_writeSimpleField 0 = .ok (.aload_n 0, 1) := by decide +kernel
theorem dX1_writeSimpleField_1 : decode cX1_writeSimpleField 1 = .ok (.getfield 18, 3) := by decide +kernel
theorem dX1_writeSimpleField_4 : decode cX1_writeSimpleField 4 = .ok (.iload_n 1, 1) := by decide +kernel
theorem dX1_writeSimpleField_5 : decode cX1_writeSimpleField 5 = .ok (.iconst 1, 1) := by decide +kernel
theorem dX1_writeSimpleField_6 : decode cX1_writeSimpleField 6 = .ok (.iadd, 1) := by decide +kernel
theorem dX1_writeSimpleField_7 : decode cX1_writeSimpleField 7 = .ok (.iaload, 1) := by decide +kernel
theorem dX1_writeSimpleField_8 : decode cX1_writeSimpleField 8 = .ok (.istore_n 3, 1) := by decide +kernel
theorem dX1_writeSimpleField_9 : decode cX1_writeSimpleField 9 = .ok (.aload_n 0, 1) := by decide +kernel
theorem dX1_writeSimpleField_10 : decode cX1_writeSimpleField 10 = .ok (.getfield 12, 3) := by decide +kernel
theorem dX1_writeSimpleField_13 : decode cX1_writeSimpleField 13 = .ok (.iload_n 3, 1) := by decide +kernel
theorem dX1_writeSimpleField_14 : decode cX1_writeSimpleField 14 = .ok (.iconst 1, 1) := by decide +kernel
theorem dX1_writeSimpleField_15 : decode cX1_writeSimpleField 15 = .ok (.isub, 1) := by decide +kernel
theorem dX1_writeSimpleField_16 : decode cX1_writeSimpleField 16 = .ok (.invokevirtual 49, 3) := by decide +kernel
theorem dX1_writeSimpleField_19 : decode cX1_writeSimpleField 19 = .ok (.bipush 10, 2) := by decide +kernel
theorem dX1_writeSimpleField_21 : decode cX1_writeSimpleField 21 = .ok (.if_icmp .ne 7, 3) := by decide +kernel
theorem dX1_writeSimpleField_24 : decode cX1_writeSimpleField 24 = .ok (.iconst 1, 1) := by decide +kernel
theorem dX1_writeSimpleField_25 : decode cX1_writeSimpleField 25 = .ok (.goto 4, 3) := by decide +kernel
theorem dX1_writeSimpleField_28 : decode cX1_writeSimpleField 28 = .ok (.iconst 0, 1) := by decide +kernel
theorem dX1_writeSimpleField_29 : decode cX1_writeSimpleField 29 = .ok (.istore 4, 2) := by decide +kernel
theorem dX1_writeSimpleField_31 : decode cX1_writeSimpleField 31 = .ok (.aload_n 2, 1) := by decide +kernel
theorem dX1_writeSimpleField_32 : decode cX1_writeSimpleField 32 = .ok (.invokevirtual 76, 3) := by decide +kernel
theorem dX1_writeSimpleField_35 : decode cX1_writeSimpleField 35 = .ok (.aload_n 2, 1) := by decide +kernel
theorem dX1_writeSimpleField_36 : decode cX1_writeSimpleField 36 = .ok (.aload_n 0, 1) := by decide +kernel
theorem dX1_writeSimpleField_37 : decode cX1_writeSimpleField 37 = .ok (.getfield 12, 3) := by decide +kernel
theorem dX1_writeSimpleField_40 : decode cX1_writeSimpleField 40 = .ok (.aload_n 0, 1) := by decide +kernel
theorem dX1_writeSimpleField_41 : decode cX1_writeSimpleField 41 = .ok (.getfield 18, 3) := by decide +kernel
theorem dX1_writeSimpleField_44 : decode cX1_writeSimpleField 44 = .ok (.iload_n 1, 1) := by decide +kernel
theorem dX1_writeSimpleField_45 : decode cX1_writeSimpleField 45 = .ok (.iaload, 1) := by decide +kernel
theorem dX1_writeSimpleField_46 : decode cX1_writeSimpleField 46 = .ok (.iload 4, 2) := by decide +kernel
theorem dX1_writeSimpleField_48 : decode cX1_writeSimpleField 48 = .ok (.ifCond .eq 9, 3) := by decide +kernel
theorem dX1_writeSimpleField_51 : decode cX1_writeSimpleField 51 = .ok (.iload_n 3, 1) := by decide +kernel
theorem dX1_writeSimpleField_52 : decode cX1_writeSimpleField 52 = .ok (.iconst 1, 1) := by decide +kernel
theorem dX1_writeSimpleField_53 : decode cX1_writeSimpleField 53 = .ok (.isub, 1) := by decide +kernel
theorem dX1_writeSimpleField_54 : decode cX1_writeSimpleField 54 = .ok (.goto 4, 3) := by decide +kernel
theorem dX1_writeSimpleField_57 : decode cX1_writeSimpleField 57 = .ok (.iload_n 3, 1) := by decide +kernel
theorem dX1_writeSimpleField_58 : decode cX1_writeSimpleField 58 = .ok (.invokevirtual 87, 3) := by decide +kernel
theorem dX1_writeSimpleField_61 : decode cX1_writeSimpleField 61 = .ok (.return_, 1) := by decide +kernel
theorem hyX1_writeSimpleField : yX1_writeSimpleField.cls ≠ "java/lang/invoke/MethodHandle" ∧ yX1_writeSimpleField.cls ≠ "java/lang/invoke/VarHandle" ∧ (parseMethodDescriptor yX1_writeSimpleField.desc).map (fun d => d.parameters.length) = some 2 := by decide +kernel
def S_X1_writeSimpleField (u : gx_S) (v0 : Nat) (v1 : Int32) (v2 : Nat) (post : gx_S → Prop) : Prop := (gx_isO v0 1 ∧ (gx_isR (gx_r u v0 1) .int ∧ vp_in (v1 + (1 : Int32)) (gx_len (gx_r u v0 1)) ∧ (∀ x4 : Int32, x4 = (gx_a u (gx_r u v0 1) (v1 + (1 : Int32)).toNatClampNeg) → (gx_isO (gx_r u v0 0) 0 ∧ S_X0_at u (gx_r u v0 0) (x4 - (1 : Int32)) (fun (r7 : Int32) (u6 : gx_S) => ((¬ r7 = (10 : Int32) → (gx_isO v2 0 ∧ S_X0_clear u6 v2 (fun (u9 : gx_S) => (gx_isR (gx_r u9 v0 1) .int ∧ vp_in v1 (gx_len (gx_r u9 v0 1)) ∧ (S_X0_addPart u9 v2 (gx_r u9 v0 0) (gx_a u9 (gx_r u9 v0 1) v1.toNatClampNeg) x4 (fun (u12 : gx_S) => post u12)))))) ∧ (r7 = (10 : Int32) → (gx_isO v2 0 ∧ S_X0_clear u6 v2 (fun (u14 : gx_S) => (gx_isR (gx_r u14 v0 1) .int ∧ vp_in v1 (gx_len (gx_r u14 v0 1)) ∧ (S_X0_addPart u14 v2 (gx_r u14 v0 0) (gx_a u14 (gx_r u14 v0 1) v1.toNatClampNeg) (x4 - (1 : Int32)) (fun (u17 : gx_S) => post u17))))))))))))
set_option maxHeartbeats 4000000 in
set_option maxRecDepth 100000 in
theorem w_X1_writeSimpleField {E : gx_E} (X : gx_X E cX1_writeSimpleField 5 RX1 none) (hd : 2 ≤ ex_d E) {post : gx_S → Prop} (hQ : ex_Q E = va_Qv post (gx_B (ex_Z E)) (gx_A (ex_Z E))) {u : gx_S} {v0 : Nat} {v1 : Int32} {v2 : Nat} (h : S_X1_writeSimpleField u v0 v1 v2 post) : gx_Wc E 5 0 [(0, .ref (ex_ad E v0)), (1, .int v1), (2, .ref (ex_ad E v2))] [] u := by
  unfold S_X1_writeSimpleField at h
  refine gx_aload_n X (j := 0) dX1_writeSimpleField_0 rfl rfl ?_
  obtain ⟨k1, h⟩ := h
  refine gx_get X k1 rfl iwX1 1 (by decide) mw_47 (v := .ref (ex_ad E (gx_r u v0 1))) rfl dX1_writeSimpleField_1 ?_
  refine gx_iload_n X (j := 1) dX1_writeSimpleField_4 rfl rfl ?_
  refine gx_iconst X (v := 1) dX1_writeSimpleField_5 (by decide) ?_
  refine gx_iadd X dX1_writeSimpleField_6 ?_
  obtain ⟨k2, h⟩ := h
  obtain ⟨k3, h⟩ := h
  refine gx_iald X k2 k3 dX1_writeSimpleField_7 ?_
  refine gx_nami (fun x4 ex4 => ?_)
  replace h := h x4 ex4
  refine gx_istore_n X (lv' := [(3, .int x4), (0, .ref (ex_ad E v0)), (1, .int v1), (2, .ref (ex_ad E v2))]) dX1_writeSimpleField_8 rfl (by decide) rfl ?_
  refine gx_aload_n X (j := 1) dX1_writeSimpleField_9 rfl rfl ?_
  refine gx_get X k1 rfl iwX1 0 (by decide) mw_46 (v := .ref (ex_ad E (gx_r u v0 0))) rfl dX1_writeSimpleField_10 ?_
  refine gx_iload_n X (j := 0) dX1_writeSimpleField_13 rfl rfl ?_
  refine gx_iconst X (v := 1) dX1_writeSimpleField_14 (by decide) ?_
  refine gx_isub X dX1_writeSimpleField_15 ?_
  obtain ⟨k5, h⟩ := h
  refine gx_ki (gx_rV X (c_X0_at h) (Nat.le_trans (by decide) hd) (Nat.le_trans (by decide) (Nat.mul_le_mul_left 40 hd)) k5 rfl mw_162 mw_163 mw_164 mw_2 mw_165 hyX0_at (As := [.int (x4 - (1 : Int32))]) (rest := []) rfl rfl (Nat.le_of_ble_eq_true rfl) dX1_writeSimpleField_16) (fun r7 u6 h => ?_)
  refine gx_bipush X (v := 10) dX1_writeSimpleField_19 (by decide) ?_
  refine gx_icmp_ne X (tgt := 28) dX1_writeSimpleField_21 (by decide) (fun c18 => ?_) (fun c18 => ?_)
  · replace h := h.1 c18
    refine gx_iconst X (v := 0) dX1_writeSimpleField_28 (by decide) ?_
    refine gx_istore X (lv' := [(4, .int (0 : Int32)), (3, .int x4), (0, .ref (ex_ad E v0)), (1, .int v1), (2, .ref (ex_ad E v2))]) dX1_writeSimpleField_29 (by decide) rfl ?_
    refine gx_aload_n X (j := 4) dX1_writeSimpleField_31 rfl rfl ?_
    obtain ⟨k8, h⟩ := h
    refine gx_kv (gx_rV X (c_X0_clear h) (Nat.le_trans (by decide) hd) (Nat.le_trans (by decide) (Nat.mul_le_mul_left 40 hd)) k8 rfl mw_213 mw_192 mw_193 mw_2 mw_194 hyX0_clear (As := []) (rest := []) rfl rfl (Nat.le_of_ble_eq_true rfl) dX1_writeSimpleField_32) (fun u9 h => ?_)
    refine gx_aload_n X (j := 4) dX1_writeSimpleField_35 rfl rfl ?_
    refine gx_aload_n X (j := 2) dX1_writeSimpleField_36 rfl rfl ?_
    refine gx_get X k1 rfl iwX1 0 (by decide) mw_46 (v := .ref (ex_ad E (gx_r u9 v0 0))) rfl dX1_writeSimpleField_37 ?_
    refine gx_aload_n X (j := 2) dX1_writeSimpleField_40 rfl rfl ?_
    refine gx_get X k1 rfl iwX1 1 (by decide) mw_47 (v := .ref (ex_ad E (gx_r u9 v0 1))) rfl dX1_writeSimpleField_41 ?_
    refine gx_iload_n X (j := 3) dX1_writeSimpleField_44 rfl rfl ?_
    obtain ⟨k10, h⟩ := h
    obtain ⟨k11, h⟩ := h
    refine gx_iald X k10 k11 dX1_writeSimpleField_45 ?_
    refine gx_iload X (j := 0) dX1_writeSimpleField_46 rfl ?_
    refine gx_if_eq X (tgt := 57) dX1_writeSimpleField_48 (by decide) (fun _ => ?_) (fun hz => absurd hz (by decide))
    refine gx_iload_n X (j := 1) dX1_writeSimpleField_57 rfl rfl ?_
    refine gx_kv (gx_rV X (c_X0_addPart h) (Nat.le_trans (by decide) hd) (Nat.le_trans (by decide) (Nat.mul_le_mul_left 40 hd)) k8 rfl mw_243 mw_196 mw_197 mw_2 mw_198 hyX0_addPart (As := [.ref (ex_ad E (gx_r u9 v0 0)), .int (gx_a u9 (gx_r u9 v0 1) v1.toNatClampNeg), .int x4]) (rest := []) rfl rfl (Nat.le_of_ble_eq_true rfl) dX1_writeSimpleField_58) (fun u12 h => ?_)
    exact gx_vret X hQ h dX1_writeSimpleField_61
  · replace h := h.2 c18
    refine gx_iconst X (v := 1) dX1_writeSimpleField_24 (by decide) ?_
    refine gx_goto X (tgt := 29) dX1_writeSimpleField_25 (by decide) ?_
    refine gx_istore X (lv' := [(4, .int (1 : Int32)), (3, .int x4), (0, .ref (ex_ad E v0)), (1, .int v1), (2, .ref (ex_ad E v2))]) dX1_writeSimpleField_29 (by decide) rfl ?_
    refine gx_aload_n X (j := 4) dX1_writeSimpleField_31 rfl rfl ?_
    obtain ⟨k13, h⟩ := h
    refine gx_kv (gx_rV X (c_X0_clear h) (Nat.le_trans (by decide) hd) (Nat.le_trans (by decide) (Nat.mul_le_mul_left 40 hd)) k13 rfl mw_213 mw_192 mw_193 mw_2 mw_194 hyX0_clear (As := []) (rest := []) rfl rfl (Nat.le_of_ble_eq_true rfl) dX1_writeSimpleField_32) (fun u14 h => ?_)
    refine gx_aload_n X (j := 4) dX1_writeSimpleField_35 rfl rfl ?_
    refine gx_aload_n X (j := 2) dX1_writeSimpleField_36 rfl rfl ?_
    refine gx_get X k1 rfl iwX1 0 (by decide) mw_46 (v := .ref (ex_ad E (gx_r u14 v0 0))) rfl dX1_writeSimpleField_37 ?_
    refine gx_aload_n X (j := 2) dX1_writeSimpleField_40 rfl rfl ?_
    refine gx_get X k1 rfl iwX1 1 (by decide) mw_47 (v := .ref (ex_ad E (gx_r u14 v0 1))) rfl dX1_writeSimpleField_41 ?_
    refine gx_iload_n X (j := 3) dX1_writeSimpleField_44 rfl rfl ?_
    obtain ⟨k15, h⟩ := h
    obtain ⟨k16, h⟩ := h
    refine gx_iald X k15 k16 dX1_writeSimpleField_45 ?_
    refine gx_iload X (j := 0) dX1_writeSimpleField_46 rfl ?_
    refine gx_if_eq X (tgt := 57) dX1_writeSimpleField_48 (by decide) (fun hz => absurd hz (by decide)) (fun _ => ?_)
    refine gx_iload_n X (j := 1) dX1_writeSimpleField_51 rfl rfl ?_
    refine gx_iconst X (v := 1) dX1_writeSimpleField_52 (by decide) ?_
    refine gx_isub X dX1_writeSimpleField_53 ?_
    refine gx_goto X (tgt := 58) dX1_writeSimpleField_54 (by decide) ?_
    refine gx_kv (gx_rV X (c_X0_addPart h) (Nat.le_trans (by decide) hd) (Nat.le_trans (by decide) (Nat.mul_le_mul_left 40 hd)) k13 rfl mw_243 mw_196 mw_197 mw_2 mw_198 hyX0_addPart (As := [.ref (ex_ad E (gx_r u14 v0 0)), .int (gx_a u14 (gx_r u14 v0 1) v1.toNatClampNeg), .int (x4 - (1 : Int32))]) (rest := []) rfl rfl (Nat.le_of_ble_eq_true rfl) dX1_writeSimpleField_58) (fun u17 h => ?_)
    exact gx_vret X hQ h dX1_writeSimpleField_61
theorem c_X1_writeSimpleField {l : Launch} {Z : gx_Z} {u : gx_S} {v0 : Nat} {v1 : Int32} {v2 : Nat} {post : gx_S → Prop} (h : S_X1_writeSimpleField u v0 v1 v2 post) : Met l yX1_writeSimpleField (Cond.code yX1_writeSimpleField cX1_writeSimpleField 5 none :: gx_TB) (gx_rm 2) (gx_Pre Z u [.ref (Z.2.1 v0), .int v1, .ref (Z.2.1 v2)]) (va_Qv post (gx_B Z) (gx_A Z)) 0 0 (gx_A Z) := by
  refine gx_met (by decide +kernel) (Nat.le_of_ble_eq_true rfl) ?_
  intro E X hZ hQ hD hL
  subst hZ
  exact w_X1_writeSimpleField X (Nat.le_of_eq hD.symm) hQ h
theorem emit {u : gx_S} {o c nl : Nat} {w : Bool} {O : List Nat} {post : gx_S → Prop} (hO : byL u o O) (hc : c < 256) (hl : O.length + nl + (if w then 1 else 0) + 1 ≤ 2000) (h : byU u o (O ++ List.replicate nl 10 ++ (if w then [32] else []) ++ [c]) post) :
    S_X0_addTimes u o (10 : Int32) (nI nl) (fun u17 => ((b2 w = 0 → S_X0_addTimes u17 o (32 : Int32) (0 : Int32) (fun u18 => S_X0_add u18 o (cI c) (fun u19 => post u19))) ∧ (¬ b2 w = 0 → S_X0_addTimes u17 o (32 : Int32) (1 : Int32) (fun u21 => S_X0_add u21 o (cI c) (fun u22 => post u22))))) := by
  have hx : (cI c).toInt8.toInt32 = sb_b c := by rw [cI_lo hc, byte_nI (by omega), Nat.mod_eq_of_lt hc]
  refine ⟨O, 10, nl, hO, by omega, by decide, rfl, by omega, fun f hf => ⟨fun q => ?_, fun q => ?_⟩⟩
  · rw [b2_0] at q
    subst q
    have h1 := byL_W hO hf (by simp; omega)
    refine ⟨_, 32, 0, h1, by omega, by decide, nI_0.symm, by simp; omega, fun g hg => ?_⟩
    have h2 := byL_W h1 hg (by simp; omega)
    refine i_X0_add h2 (by simp; omega) hc hx (byU_W (byU_W ?_))
    simpa using h
  · have q2 := b2_n0 q
    subst q2
    simp only [if_true] at hl
    have h1 := byL_W hO hf (by simp; omega)
    refine ⟨_, 32, 1, h1, by omega, by decide, rfl, by simp; omega, fun g hg => ?_⟩
    have h2 := byL_W h1 hg (by simp; omega)
    refine i_X0_add h2 (by simp; omega) hc hx (byU_W (byU_W ?_))
    simpa using h
/-- the body's lines without what is at the end: newlines and white that wait -/
def bdF (M : List Nat) (rel : Bool) : Nat → Nat → Nat → Bool → List Nat → List Nat
  | 0, _, _, _, O => O
  | k + 1, i, nl, w, O => if ch M i = 10 then bdF M rel k (i + 1) (nl + 1) false O else if (rel && isW (ch M i)) = true then bdF M rel k (i + 1) nl true O else bdF M rel k (i + 1) 0 false (O ++ List.replicate nl 10 ++ (if w then [32] else []) ++ [ch M i])
def bodyE (rel : Bool) (O : List Nat) : List Nat := if (rel && decide (O.length = 0)) = true then O else O ++ [10]
def bodyO (M : List Nat) (rel : Bool) (i : Nat) : List Nat := bodyE rel (bdF M rel (M.length - i) i 0 false [])
def S_X1_writeBody (u : gx_S) (v0 : Nat) (v1 : Int32) (v2 : Nat) (post : gx_S → Prop) : Prop := v0 = 3 ∧ v2 = 2 ∧ cfix u ∧ ∃ (M O : List Nat) (k : Nat) (rel : Bool), mlL u M k ∧ byL u 2 O ∧ v1 = b2 rel ∧ byU u 2 (bodyO M rel (plc M k + 1)) post
theorem cr2 {u : gx_S} (hf : cfix u) : gx_r u 4 0 ≠ gx_r u 2 0 := by rw [hf 4 0 (by decide), hf 2 0 (by decide)]; decide
theorem lp_X1_writeBody {E : gx_E} (X : gx_X E cX1_writeBody 7 RX1 none) (hd : 2 ≤ ex_d E) {post : gx_S → Prop} (hQ : ex_Q E = va_Qv post (gx_B (ex_Z E)) (gx_A (ex_Z E))) {M : List Nat} {rel : Bool} :
    ∀ (n i nl : Nat) (w : Bool) (O : List Nat) (u : gx_S), M.length - i = n → 1 ≤ i → i < 2 ^ 30 → O.length + nl + (if w then 1 else 0) + 1 ≤ i → O.length + nl + (if w then 1 else 0) + n + 1 ≤ 2000 → cfix u → byL u 4 M → byL u 2 O → byU u 2 (bodyE rel (bdF M rel n i nl w O)) post → J_X1_writeBody_22 E 3 (b2 rel) 2 (nI nl) (b2 w) (nI i) u := by
  intro n
  induction n with
  | zero =>
    intro i nl w O u hn h1 hi hl hl2 hf hM hO hp
    have hM2 := hM.2.2.2.2.1
    refine w_X1_writeBody_22 X hd hQ ?_
    rw [show gx_r u 3 0 = 4 from hf 3 0 (by decide)]
    unfold bdF bodyE at hp
    refine ⟨isO_x 3 1 (by decide), hM.1, i_X0_size hM ⟨fun _ => ⟨fun q => ⟨hO.1, ?_⟩, fun q => ⟨hO.1, i_X0_size hO ⟨fun q2 => ?_, fun q2 => ?_⟩⟩⟩, fun q => absurd (nI_le (by omega) (by omega)) q⟩⟩
    · rw [b2_0] at q
      subst q
      rw [if_neg (by simp)] at hp
      exact i_X0_add hO (by omega) (by omega) (by decide) hp
    · rw [show (0 : Int32) = nI 0 from nI_0.symm, nI_leI (by omega) (by omega)] at q2
      rw [b2_n0 q, if_pos (by rw [Bool.true_and, decide_eq_true_eq]; omega)] at hp
      exact byU_self hO hp
    · rw [show (0 : Int32) = nI 0 from nI_0.symm, nI_leI (by omega) (by omega)] at q2
      rw [b2_n0 q, if_neg (by rw [Bool.true_and, decide_eq_true_eq]; omega)] at hp
      exact i_X0_add hO (by omega) (by omega) (by decide) hp
  | succ n ih =>
    intro i nl w O u hn h1 hi hl hl2 hf hM hO hp
    have hM2 := hM.2.2.2.2.1
    have hci : ch M i < 256 := ch_lt hM.2.2.2.2.2.1 (by omega)
    have key : (¬ ch M i = 10) → (rel && isW (ch M i)) = false → byU u 2 (O ++ List.replicate nl 10 ++ (if w then [32] else []) ++ [ch M i]) (fun u19 => ∀ x20 : Int32, x20 = nI i + 1 → J_X1_writeBody_22 E 3 (b2 rel) 2 (0 : Int32) (0 : Int32) x20 u19) := by
      intro q1 q2 f hf2 x20 e
      subst e
      rw [nI_1]
      rw [bdF, if_neg q1, if_neg (by rw [q2]; decide)] at hp
      have hlen : (O ++ List.replicate nl 10 ++ (if w then [32] else []) ++ [ch M i]).length = O.length + nl + (if w then 1 else 0) + 1 := by
        cases w <;> simp <;> omega
      exact ih (i + 1) 0 false _ _ (by omega) (by omega) (by omega) (by rw [hlen]; simp; omega) (by rw [hlen]; simp; omega) (fun o k h => hf o k h) (byL_ne hM (by decide) (cr2 hf)) (byL_W hO hf2 (by rw [hlen]; omega)) (byU_W hp)
    refine w_X1_writeBody_22 X hd hQ ?_
    rw [show gx_r u 3 0 = 4 from hf 3 0 (by decide)]
    refine ⟨isO_x 3 1 (by decide), hM.1, i_X0_size hM ⟨fun q => absurd q (nI_ge (by omega) (by omega)), fun _ => ?_⟩⟩
    rw [show gx_r u 3 0 = 4 from hf 3 0 (by decide)]
    refine ⟨hM.1, i_X0_at hM (by omega) ⟨fun q => ⟨fun q1 => ⟨hO.1, ?_⟩, fun q1 => i_X6_isWhite ⟨fun q2 => ⟨hO.1, ?_⟩, fun q2 => ?_⟩⟩, fun q => ?_⟩⟩
    · rw [b2_0] at q1
      exact emit hO hci (by omega) (key (fun e => q ((cI_eq (k := 10) (by omega)).mpr e)) (by rw [q1]; rfl))
    · rw [b2_0] at q2
      exact emit hO hci (by omega) (key (fun e => q ((cI_eq (k := 10) (by omega)).mpr e)) (by rw [q2, Bool.and_false]))
    · rintro x36 rfl
      rw [nI_1]
      rw [bdF, if_neg (fun e => q ((cI_eq (k := 10) (by omega)).mpr e)), if_pos (by rw [b2_n0 q1, b2_n0 q2]; rfl)] at hp
      exact ih (i + 1) nl true O u (by omega) (by omega) (by omega) (by simp; split at hl <;> omega) (by simp; split at hl2 <;> omega) hf hM hO hp
    · rintro x39 rfl x40 rfl
      rw [nI_1, nI_1]
      rw [bdF, if_pos ((cI_eq (k := 10) (by omega)).mp q)] at hp
      exact ih (i + 1) (nl + 1) false O u (by omega) (by omega) (by omega) (by simp; split at hl <;> omega) (by simp; split at hl2 <;> omega) hf hM hO hp
theorem w_X1_writeBody {E : gx_E} (X : gx_X E cX1_writeBody 7 RX1 none) (hd : 2 ≤ ex_d E) {post : gx_S → Prop} (hQ : ex_Q E = va_Qv post (gx_B (ex_Z E)) (gx_A (ex_Z E))) {u : gx_S} {v0 : Nat} {v1 : Int32} {v2 : Nat} (h : S_X1_writeBody u v0 v1 v2 post) : gx_Wc E 7 0 [(0, .ref (ex_ad E v0)), (1, .int v1), (2, .ref (ex_ad E v2))] [] u := by
  obtain ⟨rfl, rfl, hf, M, O, k, rel, ⟨m1, m2, m3, m4⟩, hO, rfl, hp⟩ := h
  have hM2 := m1.2.2.2.2.1
  have hpl := plc_le M k
  refine w_X1_writeBody_0 X hd hQ ⟨hO.1, i_X0_clear hO (fun f hf2 => ⟨isO_x 3 1 (by decide), ?_⟩)⟩
  rw [byW_r, hf 3 1 (by decide), byW_i, if_neg (by decide), m2, byW_a, if_neg (by rw [hf 2 0 (by decide)]; decide)]
  refine ⟨isA13.r, vp_in_nI (N := 21) (by omega) (by omega), ?_⟩
  intro x6 e6
  rw [show rC 3 1 = 13 from rfl, nI_clamp (by omega), m4 k (Nat.le_refl _), nI_1] at e6
  subst e6
  exact lp_X1_writeBody X hd hQ (M.length - (plc M k + 1)) (plc M k + 1) 0 false [] _ rfl (by omega) (by omega) (by simp) (by simp; omega) (fun o k h => hf o k h) (byL_ne m1 (by decide) (cr2 hf)) (byL_W hO hf2 (by simp)) (byU_W hp)
theorem c_X1_writeBody {l : Launch} {Z : gx_Z} {u : gx_S} {v0 : Nat} {v1 : Int32} {v2 : Nat} {post : gx_S → Prop} (h : S_X1_writeBody u v0 v1 v2 post) : Met l yX1_writeBody (Cond.code yX1_writeBody cX1_writeBody 7 none :: gx_TB) (gx_rm 2) (gx_Pre Z u [.ref (Z.2.1 v0), .int v1, .ref (Z.2.1 v2)]) (va_Qv post (gx_B Z) (gx_A Z)) 0 0 (gx_A Z) := by
  refine gx_met (by decide +kernel) (Nat.le_of_ble_eq_true rfl) ?_
  intro E X hZ hQ hD hL
  subst hZ
  exact w_X1_writeBody X (Nat.le_of_eq hD.symm) hQ h
-- addRelaxedValue
def rvF (M : List Nat) : Nat → Nat → Bool → List Nat → List Nat
  | 0, _, _, V => V
  | k + 1, i, w, V => if isW (ch M i) = true then rvF M k (i + 1) true V else if ch M i = 10 then rvF M k (i + 1) w V else rvF M k (i + 1) false (V ++ (if (w && decide (0 < V.length)) = true then [32] else []) ++ [ch M i])
def S_X1_addRelaxedValue (u : gx_S) (v0 : Nat) (v1 v2 : Int32) (v3 : Nat) (post : gx_S → Prop) : Prop := v0 = 3 ∧ v3 = 2 ∧ cfix u ∧ ∃ (M O : List Nat) (i j : Nat), byL u 4 M ∧ byL u 2 O ∧ v1 = nI i ∧ v2 = nI j ∧ i < 2 ^ 29 ∧ j ≤ M.length ∧ O.length + (j - i) ≤ 2000 ∧ byU u 2 (O ++ rvF M (j - i) i false []) post
theorem emit1 {u : gx_S} {o c : Nat} {O : List Nat} {post : gx_S → Prop} (hO : byL u o O) (hc : c < 256) (hl : O.length + 1 ≤ 2000) (h : byU u o (O ++ [c]) post) : S_X0_addTimes u o (32 : Int32) (0 : Int32) (fun u9 => S_X0_add u9 o (cI c) (fun u10 => post u10)) := by
  refine ⟨O, 32, 0, hO, by omega, by decide, nI_0.symm, by omega, fun g hg => ?_⟩
  have h2 := byL_W hO hg (by simp; omega)
  refine i_X0_add h2 (by simp; omega) hc (by rw [cI_lo hc, byte_nI (by omega), Nat.mod_eq_of_lt hc]) (byU_W ?_)
  simpa using h
theorem emit2 {u : gx_S} {o c : Nat} {O : List Nat} {post : gx_S → Prop} (hO : byL u o O) (hc : c < 256) (hl : O.length + 2 ≤ 2000) (h : byU u o (O ++ [32] ++ [c]) post) : S_X0_addTimes u o (32 : Int32) (1 : Int32) (fun u9 => S_X0_add u9 o (cI c) (fun u10 => post u10)) := by
  refine ⟨O, 32, 1, hO, by omega, by decide, rfl, by omega, fun g hg => ?_⟩
  have h2 := byL_W hO hg (by simp; omega)
  refine i_X0_add h2 (by simp; omega) hc (by rw [cI_lo hc, byte_nI (by omega), Nat.mod_eq_of_lt hc]) (byU_W ?_)
  simpa using h
theorem lp_X1_addRelaxedValue {E : gx_E} (X : gx_X E cX1_addRelaxedValue 8 RX1 none) (hd : 2 ≤ ex_d E) {post : gx_S → Prop} (hQ : ex_Q E = va_Qv post (gx_B (ex_Z E)) (gx_A (ex_Z E))) {M O : List Nat} {j : Nat} {v1 : Int32} (hj : j ≤ M.length) :
    ∀ (n i : Nat) (w : Bool) (V : List Nat) (u : gx_S), j - i = n → i < 2 ^ 29 → O.length + V.length + (if w then 1 else 0) + n ≤ 2000 → cfix u → byL u 4 M → byL u 2 (O ++ V) → byU u 2 (O ++ rvF M n i w V) post → J_X1_addRelaxedValue_12 E 3 v1 (nI j) 2 (nI O.length) (b2 w) (nI i) u := by
  intro n
  induction n with
  | zero =>
    intro i w V u hn hi hl hf hM hO hp
    have hM2 := hM.2.2.2.2.1
    refine w_X1_addRelaxedValue_12 X hd hQ ⟨fun _ => byU_self hO hp, fun q => absurd (nI_le (by omega) (by omega)) q⟩
  | succ n ih =>
    intro i w V u hn hi hl hf hM hO hp
    have hM2 := hM.2.2.2.2.1
    have hci : ch M i < 256 := ch_lt hM.2.2.2.2.2.1 (by omega)
    have key : isW (ch M i) = false → (¬ ch M i = 10) → byU u 2 (O ++ (V ++ (if (w && decide (0 < V.length)) = true then [32] else []) ++ [ch M i])) (fun u10 => ∀ x11 : Int32, x11 = nI i + 1 → J_X1_addRelaxedValue_12 E 3 v1 (nI j) 2 (nI O.length) (0 : Int32) x11 u10) := by
      intro q1 q2 f hf2 x11 e
      subst e
      rw [nI_1]
      rw [rvF, if_neg (by rw [q1]; decide), if_neg q2] at hp
      have hlen : (V ++ (if (w && decide (0 < V.length)) = true then [32] else []) ++ [ch M i]).length ≤ V.length + (if w then 1 else 0) + 1 := by
        cases w <;> simp
        split <;> simp
      refine ih (i + 1) false _ _ (by omega) (by omega) (by simp only [Bool.false_eq_true, if_false]; omega) (fun o k h => hf o k h) (byL_ne hM (by decide) (cr2 hf)) (byL_W hO hf2 (by rw [List.length_append]; omega)) (byU_W hp)
    refine w_X1_addRelaxedValue_12 X hd hQ ⟨fun q => absurd q (nI_ge (by omega) (by omega)), fun _ => ?_⟩
    rw [show gx_r u 3 0 = 4 from hf 3 0 (by decide)]
    have hOl : (O ++ V).length = O.length + V.length := List.length_append
    refine ⟨isO_x 3 1 (by decide), hM.1, i_X0_at hM (by omega) (i_X6_isWhite ⟨fun q => ⟨fun q1 => ?_, fun q1 => ⟨fun q2 => ⟨hO.1, ?_⟩, fun q2 => ⟨hO.1, i_X0_size hO ⟨fun q3 => ?_, fun q3 => ?_⟩⟩⟩⟩, fun q => ?_⟩)⟩
    · rintro x7 rfl
      rw [nI_1]
      rw [b2_0] at q
      rw [rvF, if_neg (by rw [q]; decide), if_pos ((cI_eq (k := 10) (by omega)).mp q1)] at hp
      exact ih (i + 1) w V u (by omega) (by omega) (by split at hl <;> simp_all <;> omega) hf hM hO hp
    · rw [b2_0] at q q2
      have k1 := key q (fun e => q1 ((cI_eq (k := 10) (by omega)).mpr e))
      rw [q2] at k1
      refine emit1 hO hci (by omega) ?_
      simpa using k1
    · rw [hOl, nI_leI (by omega) (by omega)] at q3
      rw [b2_0] at q
      have k1 := key q (fun e => q1 ((cI_eq (k := 10) (by omega)).mpr e))
      rw [show decide (0 < V.length) = false from decide_eq_false (by omega)] at k1
      refine emit1 hO hci (by omega) ?_
      simpa using k1
    · rw [hOl, nI_leI (by omega) (by omega)] at q3
      rw [b2_0] at q
      have k1 := key q (fun e => q1 ((cI_eq (k := 10) (by omega)).mpr e))
      rw [show decide (0 < V.length) = true from decide_eq_true (by omega), b2_n0 q2] at k1
      have hw := b2_n0 q2
      subst hw
      simp only [if_true] at hl
      refine emit2 hO hci (by omega) ?_
      simpa using k1
    · rintro x24 rfl
      rw [nI_1]
      rw [rvF, if_pos (b2_n0 q)] at hp
      exact ih (i + 1) true V u (by omega) (by omega) (by simp; split at hl <;> omega) hf hM hO hp
theorem w_X1_addRelaxedValue {E : gx_E} (X : gx_X E cX1_addRelaxedValue 8 RX1 none) (hd : 2 ≤ ex_d E) {post : gx_S → Prop} (hQ : ex_Q E = va_Qv post (gx_B (ex_Z E)) (gx_A (ex_Z E))) {u : gx_S} {v0 : Nat} {v1 v2 : Int32} {v3 : Nat} (h : S_X1_addRelaxedValue u v0 v1 v2 v3 post) : gx_Wc E 8 0 [(0, .ref (ex_ad E v0)), (1, .int v1), (2, .int v2), (3, .ref (ex_ad E v3))] [] u := by
  obtain ⟨rfl, rfl, hf, M, O, i, j, hM, hO, rfl, rfl, hi, hj, hl, hp⟩ := h
  exact w_X1_addRelaxedValue_0 X hd hQ ⟨hO.1, i_X0_size hO (lp_X1_addRelaxedValue X hd hQ hj (j - i) i false [] u rfl hi (by simp; omega) hf hM (by rw [List.append_nil]; exact hO) hp)⟩
theorem c_X1_addRelaxedValue {l : Launch} {Z : gx_Z} {u : gx_S} {v0 : Nat} {v1 : Int32} {v2 : Int32} {v3 : Nat} {post : gx_S → Prop} (h : S_X1_addRelaxedValue u v0 v1 v2 v3 post) : Met l yX1_addRelaxedValue (Cond.code yX1_addRelaxedValue cX1_addRelaxedValue 8 none :: gx_TB) (gx_rm 2) (gx_Pre Z u [.ref (Z.2.1 v0), .int v1, .int v2, .ref (Z.2.1 v3)]) (va_Qv post (gx_B Z) (gx_A Z)) 0 0 (gx_A Z) := by
  refine gx_met (by decide +kernel) (Nat.le_of_ble_eq_true rfl) ?_
  intro E X hZ hQ hD hL
  subst hZ
  exact w_X1_addRelaxedValue X (Nat.le_of_eq hD.symm) hQ h
-- writeSimpleField
def sfO (M : List Nat) (p s : Nat) : List Nat := (M.drop p).take ((if ch M (s - 1) = 10 then s - 1 else s) - p)
theorem i_X1_writeSimpleField {u : gx_S} {M O : List Nat} {k n : Nat} {post : gx_S → Prop} (hf : cfix u) (hM : mlL u M n) (hk : k < n) (hO : byL u 2 O) (h0 : 0 < plc M (k + 1)) (h : byU u 2 (sfO M (plc M k) (plc M (k + 1))) post) : S_X1_writeSimpleField u 3 (nI k) 2 post := by
  obtain ⟨m1, m2, m3, m4⟩ := hM
  have hM2 := m1.2.2.2.2.1
  have hp1 := plc_le M k
  have hp2 := plc_le M (k + 1)
  unfold S_X1_writeSimpleField
  rw [show gx_r u 3 1 = 13 from hf 3 1 (by decide), show gx_r u 3 0 = 4 from hf 3 0 (by decide), nI_1]
  refine ⟨isO_x 3 1 (by decide), isA13.r, vp_in_nI (N := 21) (by omega) (by omega), ?_⟩
  intro x4 e4
  rw [nI_clamp (by omega), m4 (k + 1) (by omega)] at e4
  subst e4
  rw [show (1 : Int32) = nI 1 from rfl, pk_sub h0]
  have key : ∀ t, t ≤ M.length → sfO M (plc M k) (plc M (k + 1)) = (M.drop (plc M k)).take (t - plc M k) → S_X0_clear u 2 (fun (u9 : gx_S) => (gx_isR (gx_r u9 3 1) .int ∧ vp_in (nI k) (gx_len (gx_r u9 3 1)) ∧ (S_X0_addPart u9 2 (gx_r u9 3 0) (gx_a u9 (gx_r u9 3 1) (nI k).toNatClampNeg) (nI t) (fun (u12 : gx_S) => post u12)))) := by
    intro t ht e
    refine i_X0_clear hO (fun f hf2 => ?_)
    rw [byW_r, byW_r, show gx_r u 3 1 = 13 from hf 3 1 (by decide), show gx_r u 3 0 = 4 from hf 3 0 (by decide)]
    refine ⟨isA13.r, vp_in_nI (N := 21) (by omega) (by omega), [], M, plc M k, t, byL_W hO hf2 (by simp), byL_ne m1 (by decide) (cr2 hf), by decide, cr2 hf, ?_, rfl, by omega, ht, by simp; omega, byU_W ?_⟩
    · rw [nI_clamp (by omega), byW_a, if_neg (by rw [hf 2 0 (by decide)]; decide)]
      exact m4 k (by omega)
    · rw [List.nil_append, ← e]; exact h
  refine ⟨m1.1, i_X0_at m1 (by omega) ⟨fun q => ⟨hO.1, key _ hp2 ?_⟩, fun q => ⟨hO.1, key _ (by omega) ?_⟩⟩⟩
  · unfold sfO
    rw [if_neg (fun e => q ((cI_eq (k := 10) (by omega)).mpr e))]
  · unfold sfO
    rw [if_pos ((cI_eq (k := 10) (by omega)).mp q)]
-- PlainSeal$Mail.writeRelaxedField(ILPlainSeal$Bytes;)V
theorem dX1_writeRelaxedField_0 : decode cX1_writeRelaxedField 0 = .ok (.aload_n 0, 1) := by decide +kernel
theorem dX1_writeRelaxedField_1 : decode cX1_writeRelaxedField 1 = .ok (.getfield 18, 3) := by decide +kernel
theorem dX1_writeRelaxedField_4 : decode cX1_writeRelaxedField 4 = .ok (.iload_n 1, 1) := by decide +kernel
theorem dX1_writeRelaxedField_5 : decode cX1_writeRelaxedField 5 = .ok (.iaload, 1) := by decide +kernel
theorem dX1_writeRelaxedField_6 : decode cX1_writeRelaxedField 6 = .ok (.aload_n 0, 1) := by decide +kernel
theorem dX1_writeRelaxedField_7 : decode cX1_writeRelaxedField 7 = .ok (.getfield 12, 3) := by decide +kernel
theorem dX1_writeRelaxedField_10 : decode cX1_writeRelaxedField 10 = .ok (.aload_n 0, 1) := by decide +kernel
theorem dX1_writeRelaxedField_11 : decode cX1_writeRelaxedField 11 = .ok (.getfield 18, 3) := by decide +kernel
theorem dX1_writeRelaxedField_14 : decode cX1_writeRelaxedField 14 = .ok (.iload_n 1, 1) := by decide +kernel
theorem dX1_writeRelaxedField_15 : decode cX1_writeRelaxedField 15 = .ok (.iaload, 1) := by decide +kernel
theorem dX1_writeRelaxedField_16 : decode cX1_writeRelaxedField 16 = .ok (.invokestatic 42, 3) := by decide +kernel
theorem dX1_writeRelaxedField_19 : decode cX1_writeRelaxedField 19 = .ok (.iadd, 1) := by decide +kernel
theorem dX1_writeRelaxedField_20 : decode cX1_writeRelaxedField 20 = .ok (.istore_n 3, 1) := by decide +kernel
theorem dX1_writeRelaxedField_21 : decode cX1_writeRelaxedField 21 = .ok (.aload_n 2, 1) := by decide +kernel
theorem dX1_writeRelaxedField_22 : decode cX1_writeRelaxedField 22 = .ok (.invokevirtual 76, 3) := by decide +kernel
theorem dX1_writeRelaxedField_25 : decode cX1_writeRelaxedField 25 = .ok (.aload_n 0, 1) := by decide +kernel
theorem dX1_writeRelaxedField_26 : decode cX1_writeRelaxedField 26 = .ok (.getfield 18, 3) := by decide +kernel
theorem dX1_writeRelaxedField_29 : decode cX1_writeRelaxedField 29 = .ok (.iload_n 1, 1) := by decide +kernel
theorem dX1_writeRelaxedField_30 : decode cX1_writeRelaxedField 30 = .ok (.iaload, 1) := by decide +kernel
theorem dX1_writeRelaxedField_31 : decode cX1_writeRelaxedField 31 = .ok (.istore 4, 2) := by decide +kernel
theorem dX1_writeRelaxedField_33 : decode cX1_writeRelaxedField 33 = .ok (.iload 4, 2) := by decide +kernel
theorem dX1_writeRelaxedField_35 : decode cX1_writeRelaxedField 35 = .ok (.iload_n 3, 1) := by decide +kernel
theorem dX1_writeRelaxedField_36 : decode cX1_writeRelaxedField 36 = .ok (.if_icmp .ge 25, 3) := by decide +kernel
theorem dX1_writeRelaxedField_39 : decode cX1_writeRelaxedField 39 = .ok (.aload_n 2, 1) := by decide +kernel
theorem dX1_writeRelaxedField_40 : decode cX1_writeRelaxedField 40 = .ok (.aload_n 0, 1) := by decide +kernel
theorem dX1_writeRelaxedField_41 : decode cX1_writeRelaxedField 41 = .ok (.getfield 12, 3) := by decide +kernel
theorem dX1_writeRelaxedField_44 : decode cX1_writeRelaxedField 44 = .ok (.iload 4, 2) := by decide +kernel
theorem dX1_writeRelaxedField_46 : decode cX1_writeRelaxedField 46 = .ok (.invokevirtual 49, 3) := by decide +kernel
theorem dX1_writeRelaxedField_49 : decode cX1_writeRelaxedField 49 = .ok (.invokestatic 73, 3) := by decide +kernel
theorem dX1_writeRelaxedField_52 : decode cX1_writeRelaxedField 52 = .ok (.invokevirtual 83, 3) := by decide +kernel
theorem dX1_writeRelaxedField_55 : decode cX1_writeRelaxedField 55 = .ok (.iinc 4 1, 3) := by decide +kernel
theorem dX1_writeRelaxedField_58 : decode cX1_writeRelaxedField 58 = .ok (.goto (-25), 3) := by decide +kernel
theorem dX1_writeRelaxedField_61 : decode cX1_writeRelaxedField 61 = .ok (.aload_n 2, 1) := by decide +kernel
theorem dX1_writeRelaxedField_62 : decode cX1_writeRelaxedField 62 = .ok (.bipush 58, 2) := by decide +kernel
theorem dX1_writeRelaxedField_64 : decode cX1_writeRelaxedField 64 = .ok (.invokevirtual 83, 3) := by decide +kernel
theorem dX1_writeRelaxedField_67 : decode cX1_writeRelaxedField 67 = .ok (.aload_n 0, 1) := by decide +kernel
theorem dX1_writeRelaxedField_68 : decode cX1_writeRelaxedField 68 = .ok (.iload_n 3, 1) := by decide +kernel
theorem dX1_writeRelaxedField_69 : decode cX1_writeRelaxedField 69 = .ok (.iconst 1, 1) := by decide +kernel
theorem dX1_writeRelaxedField_70 : decode cX1_writeRelaxedField 70 = .ok (.iadd, 1) := by decide +kernel
theorem dX1_writeRelaxedField_71 : decode cX1_writeRelaxedField 71 = .ok (.aload_n 0, 1) := by decide +kernel
theorem dX1_writeRelaxedField_72 : decode cX1_writeRelaxedField 72 = .ok (.getfield 18, 3) := by decide +kernel
theorem dX1_writeRelaxedField_75 : decode cX1_writeRelaxedField 75 = .ok (.iload_n 1, 1) := by decide +kernel
theorem dX1_writeRelaxedField_76 : decode cX1_writeRelaxedField 76 = .ok (.iconst 1, 1) := by decide +kernel
theorem dX1_writeRelaxedField_77 : decode cX1_writeRelaxedField 77 = .ok (.iadd, 1) := by decide +kernel
theorem dX1_writeRelaxedField_78 : decode cX1_writeRelaxedField 78 = .ok (.iaload, 1) := by decide +kernel
theorem dX1_writeRelaxedField_79 : decode cX1_writeRelaxedField 79 = .ok (.aload_n 2, 1) := by decide +kernel
theorem dX1_writeRelaxedField_80 : decode cX1_writeRelaxedField 80 = .ok (.invokevirtual 91, 3) := by decide +kernel
theorem dX1_writeRelaxedField_83 : decode cX1_writeRelaxedField 83 = .ok (.return_, 1) := by decide +kernel
theorem hyX1_writeRelaxedField : yX1_writeRelaxedField.cls ≠ "java/lang/invoke/MethodHandle" ∧ yX1_writeRelaxedField.cls ≠ "java/lang/invoke/VarHandle" ∧ (parseMethodDescriptor yX1_writeRelaxedField.desc).map (fun d => d.parameters.length) = some 2 := by decide +kernel
abbrev J_X1_writeRelaxedField_33 (E : gx_E) (v0 : Nat) (v1 : Int32) (v2 : Nat) (v3 : Int32) (v4 : Int32) (u : gx_S) : Prop := gx_Wc E 5 33 [(0, .ref (ex_ad E v0)), (1, .int v1), (2, .ref (ex_ad E v2)), (3, .int v3), (4, .int v4)] [] u
set_option maxHeartbeats 4000000 in
set_option maxRecDepth 100000 in
theorem w_X1_writeRelaxedField_0 {E : gx_E} (X : gx_X E cX1_writeRelaxedField 5 RX1 none) (hd : 3 ≤ ex_d E) {post : gx_S → Prop} (hQ : ex_Q E = va_Qv post (gx_B (ex_Z E)) (gx_A (ex_Z E))) {u : gx_S} {v0 : Nat} {v1 : Int32} {v2 : Nat} (h : (gx_isO v0 1 ∧ (gx_isR (gx_r u v0 1) .int ∧ vp_in v1 (gx_len (gx_r u v0 1)) ∧ (vp_in v1 (gx_len (gx_r u v0 1)) ∧ (S_X1_nameLength u (gx_r u v0 0) (gx_a u (gx_r u v0 1) v1.toNatClampNeg) (fun (r6 : Int32) (u5 : gx_S) => (∀ x7 : Int32, x7 = ((gx_a u (gx_r u v0 1) v1.toNatClampNeg) + r6) → (gx_isO v2 0 ∧ S_X0_clear u5 v2 (fun (u9 : gx_S) => (gx_isR (gx_r u9 v0 1) .int ∧ vp_in v1 (gx_len (gx_r u9 v0 1)) ∧ (∀ x12 : Int32, x12 = (gx_a u9 (gx_r u9 v0 1) v1.toNatClampNeg) → J_X1_writeRelaxedField_33 E v0 v1 v2 x7 x12 u9))))))))))) : gx_Wc E 5 0 [(0, .ref (ex_ad E v0)), (1, .int v1), (2, .ref (ex_ad E v2))] [] u := by
  refine gx_aload_n X (j := 0) dX1_writeRelaxedField_0 rfl rfl ?_
  obtain ⟨k1, h⟩ := h
  refine gx_get X k1 rfl iwX1 1 (by decide) mw_47 (v := .ref (ex_ad E (gx_r u v0 1))) rfl dX1_writeRelaxedField_1 ?_
  refine gx_iload_n X (j := 1) dX1_writeRelaxedField_4 rfl rfl ?_
  obtain ⟨k2, h⟩ := h
  obtain ⟨k3, h⟩ := h
  refine gx_iald X k2 k3 dX1_writeRelaxedField_5 ?_
  refine gx_aload_n X (j := 0) dX1_writeRelaxedField_6 rfl rfl ?_
  refine gx_get X k1 rfl iwX1 0 (by decide) mw_46 (v := .ref (ex_ad E (gx_r u v0 0))) rfl dX1_writeRelaxedField_7 ?_
  refine gx_aload_n X (j := 0) dX1_writeRelaxedField_10 rfl rfl ?_
  refine gx_get X k1 rfl iwX1 1 (by decide) mw_47 (v := .ref (ex_ad E (gx_r u v0 1))) rfl dX1_writeRelaxedField_11 ?_
  refine gx_iload_n X (j := 1) dX1_writeRelaxedField_14 rfl rfl ?_
  obtain ⟨k4, h⟩ := h
  refine gx_iald X k2 k4 dX1_writeRelaxedField_15 ?_
  refine gx_ki (gx_rS X (c_X1_nameLength h) (Nat.le_trans (by decide) hd) (Nat.le_trans (by decide) (Nat.mul_le_mul_left 40 hd)) mw_166 mw_167 mw_3 mw_168 hyX1_nameLength (As := [.ref (ex_ad E (gx_r u v0 0)), .int (gx_a u (gx_r u v0 1) v1.toNatClampNeg)]) (rest := [.int (gx_a u (gx_r u v0 1) v1.toNatClampNeg)]) rfl rfl (Nat.le_of_ble_eq_true rfl) dX1_writeRelaxedField_16) (fun r6 u5 h => ?_)
  refine gx_iadd X dX1_writeRelaxedField_19 ?_
  refine gx_nami (fun x7 ex7 => ?_)
  replace h := h x7 ex7
  refine gx_istore_n X (lv' := [(3, .int x7), (0, .ref (ex_ad E v0)), (1, .int v1), (2, .ref (ex_ad E v2))]) dX1_writeRelaxedField_20 rfl (by decide) rfl ?_
  refine gx_aload_n X (j := 3) dX1_writeRelaxedField_21 rfl rfl ?_
  obtain ⟨k8, h⟩ := h
  refine gx_kv (gx_rV X (c_X0_clear h) (Nat.le_trans (by decide) hd) (Nat.le_trans (by decide) (Nat.mul_le_mul_left 40 hd)) k8 rfl mw_213 mw_192 mw_193 mw_2 mw_194 hyX0_clear (As := []) (rest := []) rfl rfl (Nat.le_of_ble_eq_true rfl) dX1_writeRelaxedField_22) (fun u9 h => ?_)
  refine gx_aload_n X (j := 1) dX1_writeRelaxedField_25 rfl rfl ?_
  refine gx_get X k1 rfl iwX1 1 (by decide) mw_47 (v := .ref (ex_ad E (gx_r u9 v0 1))) rfl dX1_writeRelaxedField_26 ?_
  refine gx_iload_n X (j := 2) dX1_writeRelaxedField_29 rfl rfl ?_
  obtain ⟨k10, h⟩ := h
  obtain ⟨k11, h⟩ := h
  refine gx_iald X k10 k11 dX1_writeRelaxedField_30 ?_
  refine gx_nami (fun x12 ex12 => ?_)
  replace h := h x12 ex12
  refine gx_istore X (lv' := [(4, .int x12), (3, .int x7), (0, .ref (ex_ad E v0)), (1, .int v1), (2, .ref (ex_ad E v2))]) dX1_writeRelaxedField_31 (by decide) rfl ?_
  exact gx_sub [2, 3, 4, 1, 0] rfl h
set_option maxHeartbeats 4000000 in
set_option maxRecDepth 100000 in
theorem w_X1_writeRelaxedField_33 {E : gx_E} (X : gx_X E cX1_writeRelaxedField 5 RX1 none) (hd : 3 ≤ ex_d E) {post : gx_S → Prop} (hQ : ex_Q E = va_Qv post (gx_B (ex_Z E)) (gx_A (ex_Z E))) {u : gx_S} {v0 : Nat} {v1 : Int32} {v2 : Nat} {v3 : Int32} {v4 : Int32} (h : ((v3 ≤ v4 → (gx_isO v2 0 ∧ S_X0_add u v2 (58 : Int32) (fun (u2 : gx_S) => (gx_isO v0 1 ∧ (gx_isR (gx_r u2 v0 1) .int ∧ vp_in (v1 + (1 : Int32)) (gx_len (gx_r u2 v0 1)) ∧ (S_X1_addRelaxedValue u2 v0 (v3 + (1 : Int32)) (gx_a u2 (gx_r u2 v0 1) (v1 + (1 : Int32)).toNatClampNeg) v2 (fun (u6 : gx_S) => post u6))))))) ∧ (¬ v3 ≤ v4 → (gx_isO v0 1 ∧ (gx_isO (gx_r u v0 0) 0 ∧ S_X0_at u (gx_r u v0 0) v4 (fun (r10 : Int32) (u9 : gx_S) => (S_X6_small u9 r10 (fun (r12 : Int32) (u11 : gx_S) => (gx_isO v2 0 ∧ S_X0_add u11 v2 r12 (fun (u14 : gx_S) => (∀ x15 : Int32, x15 = v4 + 1 → J_X1_writeRelaxedField_33 E v0 v1 v2 v3 x15 u14))))))))))) : gx_Wc E 5 33 [(0, .ref (ex_ad E v0)), (1, .int v1), (2, .ref (ex_ad E v2)), (3, .int v3), (4, .int v4)] [] u := by
  refine gx_iload X (j := 4) dX1_writeRelaxedField_33 rfl ?_
  refine gx_iload_n X (j := 3) dX1_writeRelaxedField_35 rfl rfl ?_
  refine gx_icmp_ge X (tgt := 61) dX1_writeRelaxedField_36 (by decide) (fun c16 => ?_) (fun c16 => ?_)
  · replace h := h.1 c16
    refine gx_aload_n X (j := 2) dX1_writeRelaxedField_61 rfl rfl ?_
    refine gx_bipush X (v := 58) dX1_writeRelaxedField_62 (by decide) ?_
    obtain ⟨k1, h⟩ := h
    refine gx_kv (gx_rV X (c_X0_add h) (Nat.le_trans (by decide) hd) (Nat.le_trans (by decide) (Nat.mul_le_mul_left 40 hd)) k1 rfl mw_218 mw_136 mw_137 mw_2 mw_138 hyX0_add (As := [.int (58 : Int32)]) (rest := []) rfl rfl (Nat.le_of_ble_eq_true rfl) dX1_writeRelaxedField_64) (fun u2 h => ?_)
    refine gx_aload_n X (j := 0) dX1_writeRelaxedField_67 rfl rfl ?_
    refine gx_iload_n X (j := 3) dX1_writeRelaxedField_68 rfl rfl ?_
    refine gx_iconst X (v := 1) dX1_writeRelaxedField_69 (by decide) ?_
    refine gx_iadd X dX1_writeRelaxedField_70 ?_
    refine gx_aload_n X (j := 0) dX1_writeRelaxedField_71 rfl rfl ?_
    obtain ⟨k3, h⟩ := h
    refine gx_get X k3 rfl iwX1 1 (by decide) mw_47 (v := .ref (ex_ad E (gx_r u2 v0 1))) rfl dX1_writeRelaxedField_72 ?_
    refine gx_iload_n X (j := 1) dX1_writeRelaxedField_75 rfl rfl ?_
    refine gx_iconst X (v := 1) dX1_writeRelaxedField_76 (by decide) ?_
    refine gx_iadd X dX1_writeRelaxedField_77 ?_
    obtain ⟨k4, h⟩ := h
    obtain ⟨k5, h⟩ := h
    refine gx_iald X k4 k5 dX1_writeRelaxedField_78 ?_
    refine gx_aload_n X (j := 2) dX1_writeRelaxedField_79 rfl rfl ?_
    refine gx_kv (gx_rV X (c_X1_addRelaxedValue h) (Nat.le_trans (by decide) hd) (Nat.le_trans (by decide) (Nat.mul_le_mul_left 40 hd)) k3 rfl mw_235 mw_237 mp_0 mw_3 mw_238 hyX1_addRelaxedValue (As := [.int (v3 + (1 : Int32)), .int (gx_a u2 (gx_r u2 v0 1) (v1 + (1 : Int32)).toNatClampNeg), .ref (ex_ad E v2)]) (rest := []) rfl rfl (Nat.le_of_ble_eq_true rfl) dX1_writeRelaxedField_80) (fun u6 h => ?_)
    exact gx_vret X hQ h dX1_writeRelaxedField_83
  · replace h := h.2 c16
    refine gx_aload_n X (j := 2) dX1_writeRelaxedField_39 rfl rfl ?_
    refine gx_aload_n X (j := 0) dX1_writeRelaxedField_40 rfl rfl ?_
    obtain ⟨k7, h⟩ := h
    refine gx_get X k7 rfl iwX1 0 (by decide) mw_46 (v := .ref (ex_ad E (gx_r u v0 0))) rfl dX1_writeRelaxedField_41 ?_
    refine gx_iload X (j := 4) dX1_writeRelaxedField_44 rfl ?_
    obtain ⟨k8, h⟩ := h
    refine gx_ki (gx_rV X (c_X0_at h) (Nat.le_trans (by decide) hd) (Nat.le_trans (by decide) (Nat.mul_le_mul_left 40 hd)) k8 rfl mw_162 mw_163 mw_164 mw_2 mw_165 hyX0_at (As := [.int v4]) (rest := [.ref (ex_ad E v2)]) rfl rfl (Nat.le_of_ble_eq_true rfl) dX1_writeRelaxedField_46) (fun r10 u9 h => ?_)
    refine gx_ki (gx_rSN X (c_X6_small h) (Nat.le_trans (by decide) hd) (Nat.le_trans (by decide) (Nat.mul_le_mul_left 40 hd)) mn_4 mw_232 mw_1 mw_233 hyX6_small (As := [.int r10]) (rest := [.ref (ex_ad E v2)]) rfl rfl (Nat.le_of_ble_eq_true rfl) dX1_writeRelaxedField_49) (fun r12 u11 h => ?_)
    obtain ⟨k13, h⟩ := h
    refine gx_kv (gx_rV X (c_X0_add h) (Nat.le_trans (by decide) hd) (Nat.le_trans (by decide) (Nat.mul_le_mul_left 40 hd)) k13 rfl mw_218 mw_136 mw_137 mw_2 mw_138 hyX0_add (As := [.int r12]) (rest := []) rfl rfl (Nat.le_of_ble_eq_true rfl) dX1_writeRelaxedField_52) (fun u14 h => ?_)
    obtain ⟨x15, ex15⟩ : ∃ y : Int32, y = v4 + 1 := ⟨_, rfl⟩
    replace h := h x15 ex15
    refine gx_iinc X (v := x15) (lv' := [(4, .int x15), (0, .ref (ex_ad E v0)), (1, .int v1), (2, .ref (ex_ad E v2)), (3, .int v3)]) dX1_writeRelaxedField_55 (j := 4) rfl (by rw [ex15]; rfl) (by decide) rfl ?_
    refine gx_goto X (tgt := 33) dX1_writeRelaxedField_58 (by decide) ?_
    exact gx_sub [1, 2, 3, 4, 0] rfl h
theorem nameLen_lt {M : List Nat} {p : Nat} (h : nameLen M p ≠ 0) : p + nameLen M p < M.length := by
  unfold nameLen at h ⊢
  by_cases hc : ch M (p + runF isN M 20 p) = 58
  · rw [if_pos hc]
    refine Nat.not_le.mp (fun q => ?_)
    rw [ch_ge q] at hc
    exact absurd hc (by decide)
  · rw [if_neg hc] at h; exact absurd rfl h
def nmO (M : List Nat) (p : Nat) : Nat → List Nat
  | 0 => []
  | n + 1 => nmO M p n ++ [sml (ch M (p + n))]
theorem nmO_len (M : List Nat) (p : Nat) : ∀ n, (nmO M p n).length = n
  | 0 => rfl
  | n + 1 => by rw [nmO, len_push, nmO_len M p n]
def rfO (M : List Nat) (p s : Nat) : List Nat := nmO M p (nameLen M p) ++ [58] ++ rvF M (s - (p + nameLen M p + 1)) (p + nameLen M p + 1) false []
def S_X1_writeRelaxedField (u : gx_S) (v0 : Nat) (v1 : Int32) (v2 : Nat) (post : gx_S → Prop) : Prop := v0 = 3 ∧ v2 = 2 ∧ cfix u ∧ ∃ (M O : List Nat) (k n : Nat), mlL u M n ∧ k < n ∧ v1 = nI k ∧ byL u 2 O ∧ byU u 2 (rfO M (plc M k) (plc M (k + 1))) post
theorem lp_X1_writeRelaxedField {E : gx_E} (X : gx_X E cX1_writeRelaxedField 5 RX1 none) (hd : 3 ≤ ex_d E) {post : gx_S → Prop} (hQ : ex_Q E = va_Qv post (gx_B (ex_Z E)) (gx_A (ex_Z E))) {M : List Nat} {k n : Nat} (hk : k < n) :
    ∀ (t i : Nat) (u : gx_S), nameLen M (plc M k) - i = t → i ≤ nameLen M (plc M k) → cfix u → mlL u M n → byL u 2 (nmO M (plc M k) i) → byU u 2 (rfO M (plc M k) (plc M (k + 1))) post → J_X1_writeRelaxedField_33 E 3 (nI k) 2 (nI (plc M k + nameLen M (plc M k))) (nI (plc M k + i)) u := by
  have h20 := nameLen_le M (plc M k)
  have hp1 := plc_le M k
  have hp2 := plc_le M (k + 1)
  intro t
  induction t with
  | zero =>
    intro i u ht hi hf hM hO hp
    obtain ⟨m1, m2, m3, m4⟩ := hM
    have hM2 := m1.2.2.2.2.1
    have e : i = nameLen M (plc M k) := by omega
    subst e
    refine w_X1_writeRelaxedField_33 X hd hQ ⟨fun _ => ⟨hO.1, i_X0_add hO (by rw [nmO_len]; omega) (c := 58) (by omega) (by decide) (fun f hf2 => ⟨isO_x 3 1 (by decide), ?_⟩)⟩, fun q => absurd (nI_le (by omega) (by omega)) q⟩
    rw [byW_r, show gx_r u 3 1 = 13 from hf 3 1 (by decide), nI_1, nI_1]
    refine ⟨isA13.r, vp_in_nI (N := 21) (by omega) (by omega), rfl, rfl, (fun o k h => hf o k h), M, _, plc M k + nameLen M (plc M k) + 1, plc M (k + 1), byL_ne m1 (by decide) (cr2 hf), byL_push hO hf2 (by rw [nmO_len]; omega), rfl, ?_, by omega, hp2, by rw [len_push, nmO_len]; omega, byU_W hp⟩
    rw [nI_clamp (by omega), byW_a, if_neg (by rw [hf 2 0 (by decide)]; decide)]
    exact m4 (k + 1) (by omega)
  | succ t ih =>
    intro i u ht hi hf hM hO hp
    have hM' := hM
    obtain ⟨m1, m2, m3, m4⟩ := hM
    have hM2 := m1.2.2.2.2.1
    have hlt := nameLen_lt (M := M) (p := plc M k) (by omega)
    have hci : ch M (plc M k + i) < 256 := ch_lt m1.2.2.2.2.2.1 (by omega)
    have hsm : sml (ch M (plc M k + i)) < 256 := by
      rcases sml_alt (Or.inl hci) with h | h
      · exact h
      · unfold sml at h; split at h
        · rename_i q; simp [isG] at q; omega
        · omega
    refine w_X1_writeRelaxedField_33 X hd hQ ⟨fun q => absurd q (nI_ge (by omega) (by omega)), fun _ => ?_⟩
    rw [show gx_r u 3 0 = 4 from hf 3 0 (by decide)]
    refine ⟨isO_x 3 1 (by decide), m1.1, i_X0_at m1 (by omega) (i_X6_small ⟨hO.1, i_X0_add hO (by rw [nmO_len]; omega) hsm (by rw [cI_lo hsm, byte_nI (by omega), Nat.mod_eq_of_lt hsm]) (fun f hf2 => ?_)⟩ (Or.inl hci))⟩
    rintro x15 rfl
    rw [nI_1]
    refine ih (i + 1) _ (by omega) (by omega) (fun o k h => hf o k h) ⟨byL_ne m1 (by decide) (cr2 hf), ?_, m3, fun j hj => ?_⟩ (byL_push hO hf2 (by rw [nmO_len]; omega)) (byU_W hp)
    · rw [byW_i, if_neg (by decide)]; exact m2
    · rw [byW_a, if_neg (by rw [hf 2 0 (by decide)]; decide)]; exact m4 j hj
theorem w_X1_writeRelaxedField {E : gx_E} (X : gx_X E cX1_writeRelaxedField 5 RX1 none) (hd : 3 ≤ ex_d E) {post : gx_S → Prop} (hQ : ex_Q E = va_Qv post (gx_B (ex_Z E)) (gx_A (ex_Z E))) {u : gx_S} {v0 : Nat} {v1 : Int32} {v2 : Nat} (h : S_X1_writeRelaxedField u v0 v1 v2 post) : gx_Wc E 5 0 [(0, .ref (ex_ad E v0)), (1, .int v1), (2, .ref (ex_ad E v2))] [] u := by
  obtain ⟨rfl, rfl, hf, M, O, k, n, hM, hk, rfl, hO, hp⟩ := h
  have hM' := hM
  obtain ⟨m1, m2, m3, m4⟩ := hM
  have hM2 := m1.2.2.2.2.1
  have hp1 := plc_le M k
  have h20 := nameLen_le M (plc M k)
  refine w_X1_writeRelaxedField_0 X hd hQ ?_
  rw [show gx_r u 3 1 = 13 from hf 3 1 (by decide), show gx_r u 3 0 = 4 from hf 3 0 (by decide), nI_clamp (by omega), m4 k (by omega)]
  refine ⟨isO_x 3 1 (by decide), isA13.r, vp_in_nI (N := 21) (by omega) (by omega), vp_in_nI (N := 21) (by omega) (by omega), M, plc M k, m1, by omega, rfl, ?_⟩
  intro x7 e7
  rw [nI_add] at e7
  subst e7
  refine ⟨hO.1, i_X0_clear hO (fun f hf2 => ?_)⟩
  rw [byW_r, show gx_r u 3 1 = 13 from hf 3 1 (by decide), byW_a, if_neg (by rw [hf 2 0 (by decide)]; decide), m4 k (by omega)]
  refine ⟨isA13.r, vp_in_nI (N := 21) (by omega) (by omega), ?_⟩
  intro x12 e12
  subst e12
  refine lp_X1_writeRelaxedField X hd hQ hk (nameLen M (plc M k)) 0 _ (by omega) (by omega) (fun o k h => hf o k h) ⟨byL_ne m1 (by decide) (cr2 hf), ?_, m3, fun j hj => ?_⟩ (byL_W hO hf2 (by simp)) (byU_W hp)
  · rw [byW_i, if_neg (by decide)]; exact m2
  · rw [byW_a, if_neg (by rw [hf 2 0 (by decide)]; decide)]; exact m4 j hj
theorem c_X1_writeRelaxedField {l : Launch} {Z : gx_Z} {u : gx_S} {v0 : Nat} {v1 : Int32} {v2 : Nat} {post : gx_S → Prop} (h : S_X1_writeRelaxedField u v0 v1 v2 post) : Met l yX1_writeRelaxedField (Cond.code yX1_writeRelaxedField cX1_writeRelaxedField 5 none :: gx_TB) (gx_rm 3) (gx_Pre Z u [.ref (Z.2.1 v0), .int v1, .ref (Z.2.1 v2)]) (va_Qv post (gx_B Z) (gx_A Z)) 0 0 (gx_A Z) := by
  refine gx_met (by decide +kernel) (Nat.le_of_ble_eq_true rfl) ?_
  intro E X hZ hQ hD hL
  subst hZ
  exact w_X1_writeRelaxedField X (Nat.le_of_eq hD.symm) hQ h
end
section
-- PlainSeal$TagList.lettersLength(LPlainSeal$Bytes;I)I
theorem dX5_lettersLength_0 : decode cX5_lettersLength 0 = .ok (.iconst 0, 1) := by decide +kernel
theorem dX5_lettersLength_1 : decode cX5_lettersLength 1 = .ok (.istore_n 2, 1) := by decide +kernel
theorem dX5_lettersLength_2 : decode cX5_lettersLength 2 = .ok (.iload_n 2, 1) := by decide +kernel
theorem dX5_lettersLength_3 : decode cX5_lettersLength 3 = .ok (.bipush 8, 2) := by decide +kernel
theorem dX5_lettersLength_5 : decode cX5_lettersLength 5 = .ok (.if_icmp .ge 22, 3) := by decide +kernel
theorem dX5_lettersLength_8 : decode cX5_lettersLength 8 = .ok (.aload_n 0, 1) := by decide +kernel
theorem dX5_lettersLength_9 : decode cX5_lettersLength 9 = .ok (.iload_n 1, 1) := by decide +kernel
theorem dX5_lettersLength_10 : decode cX5_lettersLength 10 = .ok (.iload_n 2, 1) := by decide +kernel
theorem dX5_lettersLength_11 : decode cX5_lettersLength 11 = .ok (.iadd, 1) := by decide +kernel
theorem dX5_lettersLength_12 : decode cX5_lettersLength 12 = .ok (.invokevirtual 25, 3) := by decide +kernel
theorem dX5_lettersLength_15 : decode cX5_lettersLength 15 = .ok (.invokestatic 53, 3) := by decide +kernel
theorem dX5_lettersLength_18 : decode cX5_lettersLength 18 = .ok (.ifCond .eq 9, 3) := by decide +kernel
theorem dX5_lettersLength_21 : decode cX5_lettersLength 21 = .ok (.iinc 2 1, 3) := by decide +kernel
theorem dX5_lettersLength_24 : decode cX5_lettersLength 24 = .ok (.goto (-22), 3) := by decide +kernel
theorem dX5_lettersLength_27 : decode cX5_lettersLength 27 = .ok (.aload_n 0, 1) := by decide +kernel
theorem dX5_lettersLength_28 : decode cX5_lettersLength 28 = .ok (.iload_n 1, 1) := by decide +kernel
theorem dX5_lettersLength_29 : decode cX5_lettersLength 29 = .ok (.iload_n 2, 1) := by decide +kernel
theorem dX5_lettersLength_30 : decode cX5_lettersLength 30 = .ok (.iadd, 1) := by decide +kernel
theorem dX5_lettersLength_31 : decode cX5_lettersLength 31 = .ok (.invokevirtual 25, 3) := by decide +kernel
theorem dX5_lettersLength_34 : decode cX5_lettersLength 34 = .ok (.bipush 61, 2) := by decide +kernel
theorem dX5_lettersLength_36 : decode cX5_lettersLength 36 = .ok (.if_icmp .ne 7, 3) := by decide +kernel
theorem dX5_lettersLength_39 : decode cX5_lettersLength 39 = .ok (.iload_n 2, 1) := by decide +kernel
theorem dX5_lettersLength_40 : decode cX5_lettersLength 40 = .ok (.goto 4, 3) := by decide +kernel
theorem dX5_lettersLength_43 : decode cX5_lettersLength 43 = .ok (.iconst 0, 1) := by decide +kernel
theorem dX5_lettersLength_44 : decode cX5_lettersLength 44 = .ok (.ireturn, 1) := by decide +kernel
theorem hyX5_lettersLength : yX5_lettersLength.cls ≠ "java/lang/invoke/MethodHandle" ∧ yX5_lettersLength.cls ≠ "java/lang/invoke/VarHandle" ∧ (parseMethodDescriptor yX5_lettersLength.desc).map (fun d => d.parameters.length) = some 2 := by decide +kernel
abbrev J_X5_lettersLength_2 (E : gx_E) (v0 : Nat) (v1 : Int32) (v2 : Int32) (u : gx_S) : Prop := gx_Wc E 3 2 [(0, .ref (ex_ad E v0)), (1, .int v1), (2, .int v2)] [] u
set_option maxHeartbeats 4000000 in
set_option maxRecDepth 100000 in
theorem w_X5_lettersLength_0 {E : gx_E} (X : gx_X E cX5_lettersLength 3 RX5 (some .int)) (hd : 1 ≤ ex_d E) {post : Int32 → gx_S → Prop} (hQ : ex_Q E = va_Qi post (gx_B (ex_Z E)) (gx_A (ex_Z E))) {u : gx_S} {v0 : Nat} {v1 : Int32} (h : J_X5_lettersLength_2 E v0 v1 (0 : Int32) u) : gx_Wc E 3 0 [(0, .ref (ex_ad E v0)), (1, .int v1)] [] u := by
  refine gx_iconst X (v := 0) dX5_lettersLength_0 (by decide) ?_
  refine gx_istore_n X (lv' := [(2, .int (0 : Int32)), (0, .ref (ex_ad E v0)), (1, .int v1)]) dX5_lettersLength_1 rfl (by decide) rfl ?_
  exact gx_sub [1, 2, 0] rfl h
set_option maxHeartbeats 4000000 in
set_option maxRecDepth 100000 in
theorem w_X5_lettersLength_2 {E : gx_E} (X : gx_X E cX5_lettersLength 3 RX5 (some .int)) (hd : 1 ≤ ex_d E) {post : Int32 → gx_S → Prop} (hQ : ex_Q E = va_Qi post (gx_B (ex_Z E)) (gx_A (ex_Z E))) {u : gx_S} {v0 : Nat} {v1 : Int32} {v2 : Int32} (h : (((8 : Int32) ≤ v2 → (gx_isO v0 0 ∧ S_X0_at u v0 (v1 + v2) (fun (r3 : Int32) (u2 : gx_S) => ((¬ r3 = (61 : Int32) → post (0 : Int32) u2) ∧ (r3 = (61 : Int32) → post v2 u2))))) ∧ (¬ (8 : Int32) ≤ v2 → (gx_isO v0 0 ∧ S_X0_at u v0 (v1 + v2) (fun (r7 : Int32) (u6 : gx_S) => (S_X6_isSmallLetter u6 r7 (fun (r9 : Int32) (u8 : gx_S) => ((r9 = 0 → (S_X0_at u8 v0 (v1 + v2) (fun (r11 : Int32) (u10 : gx_S) => ((¬ r11 = (61 : Int32) → post (0 : Int32) u10) ∧ (r11 = (61 : Int32) → post v2 u10))))) ∧ (¬ r9 = 0 → (∀ x13 : Int32, x13 = v2 + 1 → J_X5_lettersLength_2 E v0 v1 x13 u8)))))))))) : gx_Wc E 3 2 [(0, .ref (ex_ad E v0)), (1, .int v1), (2, .int v2)] [] u := by
  refine gx_iload_n X (j := 2) dX5_lettersLength_2 rfl rfl ?_
  refine gx_bipush X (v := 8) dX5_lettersLength_3 (by decide) ?_
  refine gx_icmp_ge X (tgt := 27) dX5_lettersLength_5 (by decide) (fun c15 => ?_) (fun c15 => ?_)
  · replace h := h.1 c15
    refine gx_aload_n X (j := 0) dX5_lettersLength_27 rfl rfl ?_
    refine gx_iload_n X (j := 1) dX5_lettersLength_28 rfl rfl ?_
    refine gx_iload_n X (j := 2) dX5_lettersLength_29 rfl rfl ?_
    refine gx_iadd X dX5_lettersLength_30 ?_
    obtain ⟨k1, h⟩ := h
    refine gx_ki (gx_rV X (c_X0_at h) (Nat.le_trans (by decide) hd) (Nat.le_trans (by decide) (Nat.mul_le_mul_left 40 hd)) k1 rfl mw_270 mw_163 mw_164 mw_2 mw_165 hyX0_at (As := [.int (v1 + v2)]) (rest := []) rfl rfl (Nat.le_of_ble_eq_true rfl) dX5_lettersLength_31) (fun r3 u2 h => ?_)
    refine gx_bipush X (v := 61) dX5_lettersLength_34 (by decide) ?_
    refine gx_icmp_ne X (tgt := 43) dX5_lettersLength_36 (by decide) (fun c4 => ?_) (fun c4 => ?_)
    · replace h := h.1 c4
      refine gx_iconst X (v := 0) dX5_lettersLength_43 (by decide) ?_
      exact gx_iret X hQ h dX5_lettersLength_44
    · replace h := h.2 c4
      refine gx_iload_n X (j := 2) dX5_lettersLength_39 rfl rfl ?_
      refine gx_goto X (tgt := 44) dX5_lettersLength_40 (by decide) ?_
      exact gx_iret X hQ h dX5_lettersLength_44
  · replace h := h.2 c15
    refine gx_aload_n X (j := 0) dX5_lettersLength_8 rfl rfl ?_
    refine gx_iload_n X (j := 1) dX5_lettersLength_9 rfl rfl ?_
    refine gx_iload_n X (j := 2) dX5_lettersLength_10 rfl rfl ?_
    refine gx_iadd X dX5_lettersLength_11 ?_
    obtain ⟨k5, h⟩ := h
    refine gx_ki (gx_rV X (c_X0_at h) (Nat.le_trans (by decide) hd) (Nat.le_trans (by decide) (Nat.mul_le_mul_left 40 hd)) k5 rfl mw_270 mw_163 mw_164 mw_2 mw_165 hyX0_at (As := [.int (v1 + v2)]) (rest := []) rfl rfl (Nat.le_of_ble_eq_true rfl) dX5_lettersLength_12) (fun r7 u6 h => ?_)
    refine gx_ki (gx_rSN X (c_X6_isSmallLetter h) (Nat.le_trans (by decide) hd) (Nat.le_trans (by decide) (Nat.mul_le_mul_left 40 hd)) mn_6 mw_173 mw_1 mw_174 hyX6_isSmallLetter (As := [.int r7]) (rest := []) rfl rfl (Nat.le_of_ble_eq_true rfl) dX5_lettersLength_15) (fun r9 u8 h => ?_)
    refine gx_if_eq X (tgt := 27) dX5_lettersLength_18 (by decide) (fun c14 => ?_) (fun c14 => ?_)
    · replace h := h.1 c14
      refine gx_aload_n X (j := 0) dX5_lettersLength_27 rfl rfl ?_
      refine gx_iload_n X (j := 1) dX5_lettersLength_28 rfl rfl ?_
      refine gx_iload_n X (j := 2) dX5_lettersLength_29 rfl rfl ?_
      refine gx_iadd X dX5_lettersLength_30 ?_
      refine gx_ki (gx_rV X (c_X0_at h) (Nat.le_trans (by decide) hd) (Nat.le_trans (by decide) (Nat.mul_le_mul_left 40 hd)) k5 rfl mw_270 mw_163 mw_164 mw_2 mw_165 hyX0_at (As := [.int (v1 + v2)]) (rest := []) rfl rfl (Nat.le_of_ble_eq_true rfl) dX5_lettersLength_31) (fun r11 u10 h => ?_)
      refine gx_bipush X (v := 61) dX5_lettersLength_34 (by decide) ?_
      refine gx_icmp_ne X (tgt := 43) dX5_lettersLength_36 (by decide) (fun c12 => ?_) (fun c12 => ?_)
      · replace h := h.1 c12
        refine gx_iconst X (v := 0) dX5_lettersLength_43 (by decide) ?_
        exact gx_iret X hQ h dX5_lettersLength_44
      · replace h := h.2 c12
        refine gx_iload_n X (j := 2) dX5_lettersLength_39 rfl rfl ?_
        refine gx_goto X (tgt := 44) dX5_lettersLength_40 (by decide) ?_
        exact gx_iret X hQ h dX5_lettersLength_44
    · replace h := h.2 c14
      obtain ⟨x13, ex13⟩ : ∃ y : Int32, y = v2 + 1 := ⟨_, rfl⟩
      replace h := h x13 ex13
      refine gx_iinc X (v := x13) (lv' := [(2, .int x13), (0, .ref (ex_ad E v0)), (1, .int v1)]) dX5_lettersLength_21 (j := 2) rfl (by rw [ex13]; rfl) (by decide) rfl ?_
      refine gx_goto X (tgt := 2) dX5_lettersLength_24 (by decide) ?_
      exact gx_sub [1, 2, 0] rfl h
-- PlainSeal$TagList.isSame(LPlainSeal$Bytes;ILPlainSeal$Bytes;II)Z
theorem dX5_isSame_0 : decode cX5_isSame 0 = .ok (.iconst 0, 1) := by decide +kernel
theorem dX5_isSame_1 : decode cX5_isSame 1 = .ok (.istore 5, 2) := by decide +kernel
theorem dX5_isSame_3 : decode cX5_isSame 3 = .ok (.iload 5, 2) := by decide +kernel
theorem dX5_isSame_5 : decode cX5_isSame 5 = .ok (.iload 4, 2) := by decide +kernel
theorem dX5_isSame_7 : decode cX5_isSame 7 = .ok (.if_icmp .ge 30, 3) := by decide +kernel
theorem dX5_isSame_10 : decode cX5_isSame 10 = .ok (.aload_n 0, 1) := by decide +kernel
theorem dX5_isSame_11 : decode cX5_isSame 11 = .ok (.iload_n 1, 1) := by decide +kernel
theorem dX5_isSame_12 : decode cX5_isSame 12 = .ok (.iload 5, 2) := by decide +kernel
theorem dX5_isSame_14 : decode cX5_isSame 14 = .ok (.iadd, 1) := by decide +kernel
theorem dX5_isSame_15 : decode cX5_isSame 15 = .ok (.invokevirtual 25, 3) := by decide +kernel
theorem dX5_isSame_18 : decode cX5_isSame 18 = .ok (.aload_n 2, 1) := by decide +kernel
theorem dX5_isSame_19 : decode cX5_isSame 19 = .ok (.iload_n 3, 1) := by decide +kernel
theorem dX5_isSame_20 : decode cX5_isSame 20 = .ok (.iload 5, 2) := by decide +kernel
theorem dX5_isSame_22 : decode cX5_isSame 22 = .ok (.iadd, 1) := by decide +kernel
theorem dX5_isSame_23 : decode cX5_isSame 23 = .ok (.invokevirtual 25, 3) := by decide +kernel
theorem dX5_isSame_26 : decode cX5_isSame 26 = .ok (.if_icmp .eq 5, 3) := by decide +kernel
theorem dX5_isSame_29 : decode cX5_isSame 29 = .ok (.iconst 0, 1) := by decide +kernel
theorem dX5_isSame_30 : decode cX5_isSame 30 = .ok (.ireturn, 1) := by decide +kernel
theorem dX5_isSame_31 : decode cX5_isSame 31 = .ok (.iinc 5 1, 3) := by decide +kernel
theorem dX5_isSame_34 : decode cX5_isSame 34 = .ok (.goto (-31), 3) := by decide +kernel
theorem dX5_isSame_37 : decode cX5_isSame 37 = .ok (.iconst 1, 1) := by decide +kernel
theorem dX5_isSame_38 : decode cX5_isSame 38 = .ok (.ireturn, 1) := by decide +kernel
theorem hyX5_isSame : yX5_isSame.cls ≠ "java/lang/invoke/MethodHandle" ∧ yX5_isSame.cls ≠ "java/lang/invoke/VarHandle" ∧ (parseMethodDescriptor yX5_isSame.desc).map (fun d => d.parameters.length) = some 5 := by decide +kernel
abbrev J_X5_isSame_3 (E : gx_E) (v0 : Nat) (v1 : Int32) (v2 : Nat) (v3 : Int32) (v4 : Int32) (v5 : Int32) (u : gx_S) : Prop := gx_Wc E 6 3 [(0, .ref (ex_ad E v0)), (1, .int v1), (2, .ref (ex_ad E v2)), (3, .int v3), (4, .int v4), (5, .int v5)] [] u
set_option maxHeartbeats 4000000 in
set_option maxRecDepth 100000 in
theorem w_X5_isSame_0 {E : gx_E} (X : gx_X E cX5_isSame 6 RX5 (some .boolean)) (hd : 1 ≤ ex_d E) {post : Int32 → gx_S → Prop} (hQ : ex_Q E = va_Qi post (gx_B (ex_Z E)) (gx_A (ex_Z E))) {u : gx_S} {v0 : Nat} {v1 : Int32} {v2 : Nat} {v3 : Int32} {v4 : Int32} (h : J_X5_isSame_3 E v0 v1 v2 v3 v4 (0 : Int32) u) : gx_Wc E 6 0 [(0, .ref (ex_ad E v0)), (1, .int v1), (2, .ref (ex_ad E v2)), (3, .int v3), (4, .int v4)] [] u := by
  refine gx_iconst X (v := 0) dX5_isSame_0 (by decide) ?_
  refine gx_istore X (lv' := [(5, .int (0 : Int32)), (0, .ref (ex_ad E v0)), (1, .int v1), (2, .ref (ex_ad E v2)), (3, .int v3), (4, .int v4)]) dX5_isSame_1 (by decide) rfl ?_
  exact gx_sub [1, 2, 3, 4, 5, 0] rfl h
set_option maxHeartbeats 4000000 in
set_option maxRecDepth 100000 in
theorem w_X5_isSame_3 {E : gx_E} (X : gx_X E cX5_isSame 6 RX5 (some .boolean)) (hd : 1 ≤ ex_d E) {post : Int32 → gx_S → Prop} (hQ : ex_Q E = va_Qi post (gx_B (ex_Z E)) (gx_A (ex_Z E))) {u : gx_S} {v0 : Nat} {v1 : Int32} {v2 : Nat} {v3 : Int32} {v4 : Int32} {v5 : Int32} (h : ((v4 ≤ v5 → post (1 : Int32) u) ∧ (¬ v4 ≤ v5 → (gx_isO v0 0 ∧ S_X0_at u v0 (v1 + v5) (fun (r3 : Int32) (u2 : gx_S) => (gx_isO v2 0 ∧ S_X0_at u2 v2 (v3 + v5) (fun (r6 : Int32) (u5 : gx_S) => ((r3 = r6 → (∀ x7 : Int32, x7 = v5 + 1 → J_X5_isSame_3 E v0 v1 v2 v3 v4 x7 u5)) ∧ (¬ r3 = r6 → post (0 : Int32) u5))))))))) : gx_Wc E 6 3 [(0, .ref (ex_ad E v0)), (1, .int v1), (2, .ref (ex_ad E v2)), (3, .int v3), (4, .int v4), (5, .int v5)] [] u := by
  refine gx_iload X (j := 5) dX5_isSame_3 rfl ?_
  refine gx_iload X (j := 4) dX5_isSame_5 rfl ?_
  refine gx_icmp_ge X (tgt := 37) dX5_isSame_7 (by decide) (fun c9 => ?_) (fun c9 => ?_)
  · replace h := h.1 c9
    refine gx_iconst X (v := 1) dX5_isSame_37 (by decide) ?_
    exact gx_zret X hQ rfl h dX5_isSame_38
  · replace h := h.2 c9
    refine gx_aload_n X (j := 0) dX5_isSame_10 rfl rfl ?_
    refine gx_iload_n X (j := 1) dX5_isSame_11 rfl rfl ?_
    refine gx_iload X (j := 5) dX5_isSame_12 rfl ?_
    refine gx_iadd X dX5_isSame_14 ?_
    obtain ⟨k1, h⟩ := h
    refine gx_ki (gx_rV X (c_X0_at h) (Nat.le_trans (by decide) hd) (Nat.le_trans (by decide) (Nat.mul_le_mul_left 40 hd)) k1 rfl mw_270 mw_163 mw_164 mw_2 mw_165 hyX0_at (As := [.int (v1 + v5)]) (rest := []) rfl rfl (Nat.le_of_ble_eq_true rfl) dX5_isSame_15) (fun r3 u2 h => ?_)
    refine gx_aload_n X (j := 2) dX5_isSame_18 rfl rfl ?_
    refine gx_iload_n X (j := 3) dX5_isSame_19 rfl rfl ?_
    refine gx_iload X (j := 5) dX5_isSame_20 rfl ?_
    refine gx_iadd X dX5_isSame_22 ?_
    obtain ⟨k4, h⟩ := h
    refine gx_ki (gx_rV X (c_X0_at h) (Nat.le_trans (by decide) hd) (Nat.le_trans (by decide) (Nat.mul_le_mul_left 40 hd)) k4 rfl mw_270 mw_163 mw_164 mw_2 mw_165 hyX0_at (As := [.int (v3 + v5)]) (rest := [.int r3]) rfl rfl (Nat.le_of_ble_eq_true rfl) dX5_isSame_23) (fun r6 u5 h => ?_)
    refine gx_icmp_eq X (tgt := 31) dX5_isSame_26 (by decide) (fun c8 => ?_) (fun c8 => ?_)
    · replace h := h.1 c8
      obtain ⟨x7, ex7⟩ : ∃ y : Int32, y = v5 + 1 := ⟨_, rfl⟩
      replace h := h x7 ex7
      refine gx_iinc X (v := x7) (lv' := [(5, .int x7), (0, .ref (ex_ad E v0)), (1, .int v1), (2, .ref (ex_ad E v2)), (3, .int v3), (4, .int v4)]) dX5_isSame_31 (j := 5) rfl (by rw [ex7]; rfl) (by decide) rfl ?_
      refine gx_goto X (tgt := 3) dX5_isSame_34 (by decide) ?_
      exact gx_sub [1, 2, 3, 4, 5, 0] rfl h
    · replace h := h.2 c8
      refine gx_iconst X (v := 0) dX5_isSame_29 (by decide) ?_
      exact gx_zret X hQ rfl h dX5_isSame_30
def lettLen (L : List Nat) (i : Nat) : Nat := if ch L (i + runF isS L 8 i) = 61 then runF isS L 8 i else 0
theorem lettLen_le (L : List Nat) (i : Nat) : lettLen L i ≤ 8 := by
  unfold lettLen
  have := runF_le isS L 8 i
  split <;> omega
def S_X5_lettersLength (u : gx_S) (v0 : Nat) (v1 : Int32) (post : Int32 → gx_S → Prop) : Prop := ∃ (M : List Nat) (i : Nat), byL u v0 M ∧ i < 2 ^ 30 ∧ v1 = nI i ∧ post (nI (lettLen M i)) u
theorem ll_end {u : gx_S} {v0 i k : Nat} {M : List Nat} {post : Int32 → gx_S → Prop} (hM : byL u v0 M) (hi : i < 2 ^ 30) (hk : k ≤ 8) (hr : runF isS M 8 i = k) (hp : post (nI (lettLen M i)) u) : S_X0_at u v0 (nI i + nI k) (fun (r3 : Int32) (u2 : gx_S) => ((¬ r3 = (61 : Int32) → post (0 : Int32) u2) ∧ (r3 = (61 : Int32) → post (nI k) u2))) := by
  rw [nI_add]
  unfold lettLen at hp
  rw [hr] at hp
  refine i_X0_at hM (by omega) ⟨fun q => ?_, fun q => ?_⟩
  · rw [if_neg (fun e => q ((cI_eq (k := 61) (by omega)).mpr e))] at hp; exact hp
  · rw [if_pos ((cI_eq (k := 61) (by omega)).mp q)] at hp; exact hp
theorem lp_X5_lettersLength {E : gx_E} (X : gx_X E cX5_lettersLength 3 RX5 (some .int)) (hd : 1 ≤ ex_d E) {post : Int32 → gx_S → Prop} (hQ : ex_Q E = va_Qi post (gx_B (ex_Z E)) (gx_A (ex_Z E))) {v0 i : Nat} {M : List Nat} {u : gx_S} (hM : byL u v0 M) (hi : i < 2 ^ 30) (hp : post (nI (lettLen M i)) u) :
    ∀ (n k : Nat), 8 - k = n → k ≤ 8 → runF isS M 8 i = k + runF isS M n (i + k) → J_X5_lettersLength_2 E v0 (nI i) (nI k) u := by
  intro n
  induction n with
  | zero =>
    intro k hn hk hr
    refine w_X5_lettersLength_2 X hd hQ ⟨fun _ => ⟨hM.1, ll_end hM hi hk hr hp⟩, fun q => absurd (nI_le (a := 8) (by omega) (by omega)) q⟩
  | succ n ih =>
    intro k hn hk hr
    refine w_X5_lettersLength_2 X hd hQ ⟨fun q => absurd q (nI_ge (b := 8) (by omega) (by omega)), fun _ => ⟨hM.1, ?_⟩⟩
    rw [nI_add]
    refine i_X0_at hM (by omega) (i_X6_isSmallLetter ⟨fun q => ?_, fun q => ?_⟩ (ch_alt hM.2.2.2.2.2.1 _))
    · rw [b2_0] at q
      have e : runF isS M (n + 1) (i + k) = 0 := by rw [runF, if_neg (by rw [q]; decide)]
      rw [e] at hr
      have := ll_end hM hi hk hr hp
      rwa [nI_add] at this
    · have q2 := b2_n0 q
      rintro x13 rfl
      rw [nI_1]
      have e : runF isS M (n + 1) (i + k) = runF isS M n (i + k + 1) + 1 := by rw [runF, if_pos q2]
      exact ih (k + 1) (by omega) (by omega) (by rw [hr, e]; rw [show i + k + 1 = i + (k + 1) by omega]; omega)
theorem w_X5_lettersLength {E : gx_E} (X : gx_X E cX5_lettersLength 3 RX5 (some .int)) (hd : 1 ≤ ex_d E) {post : Int32 → gx_S → Prop} (hQ : ex_Q E = va_Qi post (gx_B (ex_Z E)) (gx_A (ex_Z E))) {u : gx_S} {v0 : Nat} {v1 : Int32} (h : S_X5_lettersLength u v0 v1 post) : gx_Wc E 3 0 [(0, .ref (ex_ad E v0)), (1, .int v1)] [] u := by
  obtain ⟨M, i, hM, hi, rfl, hp⟩ := h
  exact w_X5_lettersLength_0 X hd hQ (lp_X5_lettersLength X hd hQ hM hi hp 8 0 (by omega) (by omega) (by simp))
theorem c_X5_lettersLength {l : Launch} {Z : gx_Z} {u : gx_S} {v0 : Nat} {v1 : Int32} {post : Int32 → gx_S → Prop} (h : S_X5_lettersLength u v0 v1 post) : Met l yX5_lettersLength (Cond.code yX5_lettersLength cX5_lettersLength 3 (some .int) :: gx_TB) (gx_rm 1) (gx_Pre Z u [.ref (Z.2.1 v0), .int v1]) (va_Qi post (gx_B Z) (gx_A Z)) 0 0 (gx_A Z) := by
  refine gx_met (by decide +kernel) (Nat.le_of_ble_eq_true rfl) ?_
  intro E X hZ hQ hD hL
  subst hZ
  exact w_X5_lettersLength X (Nat.le_of_eq hD.symm) hQ h
def samF (M : List Nat) (p : Nat) (N : List Nat) (q : Nat) : Nat → Nat → Bool
  | 0, _ => true
  | k + 1, i => if ch M (p + i) = ch N (q + i) then samF M p N q k (i + 1) else false
def S_X5_isSame (u : gx_S) (v0 : Nat) (v1 : Int32) (v2 : Nat) (v3 v4 : Int32) (post : Int32 → gx_S → Prop) : Prop := ∃ (M N : List Nat) (p q n : Nat), byL u v0 M ∧ byL u v2 N ∧ p < 2 ^ 29 ∧ q < 2 ^ 29 ∧ n < 2 ^ 29 ∧ v1 = nI p ∧ v3 = nI q ∧ v4 = nI n ∧ post (b2 (samF M p N q n 0)) u
theorem lp_X5_isSame {E : gx_E} (X : gx_X E cX5_isSame 6 RX5 (some .boolean)) (hd : 1 ≤ ex_d E) {post : Int32 → gx_S → Prop} (hQ : ex_Q E = va_Qi post (gx_B (ex_Z E)) (gx_A (ex_Z E))) {v0 v2 p q n : Nat} {M N : List Nat} {u : gx_S} (hM : byL u v0 M) (hN : byL u v2 N) (hp : p < 2 ^ 29) (hq : q < 2 ^ 29) (hn : n < 2 ^ 29) :
    ∀ (k i : Nat), n - i = k → i ≤ n → post (b2 (samF M p N q k i)) u → J_X5_isSame_3 E v0 (nI p) v2 (nI q) (nI n) (nI i) u := by
  intro k
  induction k with
  | zero =>
    intro i hk hi h
    refine w_X5_isSame_3 X hd hQ ⟨fun _ => h, fun z => absurd (nI_le (by omega) (by omega)) z⟩
  | succ k ih =>
    intro i hk hi h
    unfold samF at h
    refine w_X5_isSame_3 X hd hQ ⟨fun z => absurd z (nI_ge (by omega) (by omega)), fun _ => ⟨hM.1, ?_⟩⟩
    rw [nI_add, nI_add]
    have a1 := ch_alt hM.2.2.2.2.2.1 (p + i)
    have a2 := ch_alt hN.2.2.2.2.2.1 (q + i)
    refine i_X0_at hM (by omega) ⟨hN.1, i_X0_at hN (by omega) ⟨fun z => ?_, fun z => ?_⟩⟩
    · rintro x7 rfl
      rw [nI_1]
      rw [if_pos ((cI_inj a1 a2).mp z)] at h
      exact ih (i + 1) (by omega) (by omega) h
    · rw [if_neg (fun e => z ((cI_inj a1 a2).mpr e))] at h
      exact h
theorem w_X5_isSame {E : gx_E} (X : gx_X E cX5_isSame 6 RX5 (some .boolean)) (hd : 1 ≤ ex_d E) {post : Int32 → gx_S → Prop} (hQ : ex_Q E = va_Qi post (gx_B (ex_Z E)) (gx_A (ex_Z E))) {u : gx_S} {v0 : Nat} {v1 : Int32} {v2 : Nat} {v3 v4 : Int32} (h : S_X5_isSame u v0 v1 v2 v3 v4 post) : gx_Wc E 6 0 [(0, .ref (ex_ad E v0)), (1, .int v1), (2, .ref (ex_ad E v2)), (3, .int v3), (4, .int v4)] [] u := by
  obtain ⟨M, N, p, q, n, hM, hN, hp, hq, hn, rfl, rfl, rfl, h⟩ := h
  exact w_X5_isSame_0 X hd hQ (lp_X5_isSame X hd hQ hM hN hp hq hn n 0 (by omega) (by omega) h)
theorem c_X5_isSame {l : Launch} {Z : gx_Z} {u : gx_S} {v0 : Nat} {v1 : Int32} {v2 : Nat} {v3 : Int32} {v4 : Int32} {post : Int32 → gx_S → Prop} (h : S_X5_isSame u v0 v1 v2 v3 v4 post) : Met l yX5_isSame (Cond.code yX5_isSame cX5_isSame 6 (some .boolean) :: gx_TB) (gx_rm 1) (gx_Pre Z u [.ref (Z.2.1 v0), .int v1, .ref (Z.2.1 v2), .int v3, .int v4]) (va_Qi post (gx_B Z) (gx_A Z)) 0 0 (gx_A Z) := by
  refine gx_met (by decide +kernel) (Nat.le_of_ble_eq_true rfl) ?_
  intro E X hZ hQ hD hL
  subst hZ
  exact w_X5_isSame X (Nat.le_of_eq hD.symm) hQ h
-- PlainSeal$TagList.valueOf(LPlainSeal$Bytes;ILPlainSeal$Bytes;II)I
theorem dX5_valueOf_0 : decode cX5_valueOf 0 = .ok (.iconst 0, 1) := by decide +kernel
theorem dX5_valueOf_1 : decode cX5_valueOf 1 = .ok (.istore 5, 2) := by decide +kernel
theorem dX5_valueOf_3 : decode cX5_valueOf 3 = .ok (.iconst 0, 1) := by decide +kernel
theorem dX5_valueOf_4 : decode cX5_valueOf 4 = .ok (.istore 6, 2) := by decide +kernel
theorem dX5_valueOf_6 : decode cX5_valueOf 6 = .ok (.iload 6, 2) := by decide +kernel
theorem dX5_valueOf_8 : decode cX5_valueOf 8 = .ok (.bipush 40, 2) := by decide +kernel
theorem dX5_valueOf_10 : decode cX5_valueOf 10 = .ok (.if_icmp .ge 59, 3) := by decide +kernel
theorem dX5_valueOf_13 : decode cX5_valueOf 13 = .ok (.iload 5, 2) := by decide +kernel
theorem dX5_valueOf_15 : decode cX5_valueOf 15 = .ok (.iload_n 1, 1) := by decide +kernel
theorem dX5_valueOf_16 : decode cX5_valueOf 16 = .ok (.if_icmp .ge 53, 3) := by decide +kernel
theorem dX5_valueOf_19 : decode cX5_valueOf 19 = .ok (.aload_n 0, 1) := by decide +kernel
theorem dX5_valueOf_20 : decode cX5_valueOf 20 = .ok (.iload 5, 2) := by decide +kernel
theorem dX5_valueOf_22 : decode cX5_valueOf 22 = .ok (.invokestatic 41, 3) := by decide +kernel
theorem dX5_valueOf_25 : decode cX5_valueOf 25 = .ok (.iload 4, 2) := by decide +kernel
theorem dX5_valueOf_27 : decode cX5_valueOf 27 = .ok (.if_icmp .ne 24, 3) := by decide +kernel
theorem dX5_valueOf_30 : decode cX5_valueOf 30 = .ok (.aload_n 0, 1) := by decide +kernel
theorem dX5_valueOf_31 : decode cX5_valueOf 31 = .ok (.iload 5, 2) := by decide +kernel
theorem dX5_valueOf_33 : decode cX5_valueOf 33 = .ok (.aload_n 2, 1) := by decide +kernel
theorem dX5_valueOf_34 : decode cX5_valueOf 34 = .ok (.iload_n 3, 1) := by decide +kernel
theorem dX5_valueOf_35 : decode cX5_valueOf 35 = .ok (.iload 4, 2) := by decide +kernel
theorem dX5_valueOf_37 : decode cX5_valueOf 37 = .ok (.invokestatic 57, 3) := by decide +kernel
theorem dX5_valueOf_40 : decode cX5_valueOf 40 = .ok (.ifCond .eq 11, 3) := by decide +kernel
theorem dX5_valueOf_43 : decode cX5_valueOf 43 = .ok (.iload 5, 2) := by decide +kernel
theorem dX5_valueOf_45 : decode cX5_valueOf 45 = .ok (.iload 4, 2) := by decide +kernel
theorem dX5_valueOf_47 : decode cX5_valueOf 47 = .ok (.iadd, 1) := by decide +kernel
theorem dX5_valueOf_48 : decode cX5_valueOf 48 = .ok (.iconst 1, 1) := by decide +kernel
theorem dX5_valueOf_49 : decode cX5_valueOf 49 = .ok (.iadd, 1) := by decide +kernel
theorem dX5_valueOf_50 : decode cX5_valueOf 50 = .ok (.ireturn, 1) := by decide +kernel
theorem dX5_valueOf_51 : decode cX5_valueOf 51 = .ok (.aload_n 0, 1) := by decide +kernel
theorem dX5_valueOf_52 : decode cX5_valueOf 52 = .ok (.bipush 59, 2) := by decide +kernel
theorem dX5_valueOf_54 : decode cX5_valueOf 54 = .ok (.iload 5, 2) := by decide +kernel
theorem dX5_valueOf_56 : decode cX5_valueOf 56 = .ok (.invokevirtual 49, 3) := by decide +kernel
theorem dX5_valueOf_59 : decode cX5_valueOf 59 = .ok (.iconst 1, 1) := by decide +kernel
theorem dX5_valueOf_60 : decode cX5_valueOf 60 = .ok (.iadd, 1) := by decide +kernel
theorem dX5_valueOf_61 : decode cX5_valueOf 61 = .ok (.istore 5, 2) := by decide +kernel
theorem dX5_valueOf_63 : decode cX5_valueOf 63 = .ok (.iinc 6 1, 3) := by decide +kernel
theorem dX5_valueOf_66 : decode cX5_valueOf 66 = .ok (.goto (-60), 3) := by decide +kernel
theorem dX5_valueOf_69 : decode cX5_valueOf 69 = .ok (.bipush (-2), 2) := by decide +kernel
theorem dX5_valueOf_71 : decode cX5_valueOf 71 = .ok (.ireturn, 1) := by decide +kernel
theorem hyX5_valueOf : yX5_valueOf.cls ≠ "java/lang/invoke/MethodHandle" ∧ yX5_valueOf.cls ≠ "java/lang/invoke/VarHandle" ∧ (parseMethodDescriptor yX5_valueOf.desc).map (fun d => d.parameters.length) = some 5 := by decide +kernel
abbrev J_X5_valueOf_6 (E : gx_E) (v0 : Nat) (v1 : Int32) (v2 : Nat) (v3 : Int32) (v4 : Int32) (v5 : Int32) (v6 : Int32) (u : gx_S) : Prop := gx_Wc E 7 6 [(0, .ref (ex_ad E v0)), (1, .int v1), (2, .ref (ex_ad E v2)), (3, .int v3), (4, .int v4), (5, .int v5), (6, .int v6)] [] u
set_option maxHeartbeats 4000000 in
set_option maxRecDepth 100000 in
theorem w_X5_valueOf_0 {E : gx_E} (X : gx_X E cX5_valueOf 7 RX5 (some .int)) (hd : 2 ≤ ex_d E) {post : Int32 → gx_S → Prop} (hQ : ex_Q E = va_Qi post (gx_B (ex_Z E)) (gx_A (ex_Z E))) {u : gx_S} {v0 : Nat} {v1 : Int32} {v2 : Nat} {v3 : Int32} {v4 : Int32} (h : J_X5_valueOf_6 E v0 v1 v2 v3 v4 (0 : Int32) (0 : Int32) u) : gx_Wc E 7 0 [(0, .ref (ex_ad E v0)), (1, .int v1), (2, .ref (ex_ad E v2)), (3, .int v3), (4, .int v4)] [] u := by
  refine gx_iconst X (v := 0) dX5_valueOf_0 (by decide) ?_
  refine gx_istore X (lv' := [(5, .int (0 : Int32)), (0, .ref (ex_ad E v0)), (1, .int v1), (2, .ref (ex_ad E v2)), (3, .int v3), (4, .int v4)]) dX5_valueOf_1 (by decide) rfl ?_
  refine gx_iconst X (v := 0) dX5_valueOf_3 (by decide) ?_
  refine gx_istore X (lv' := [(6, .int (0 : Int32)), (5, .int (0 : Int32)), (0, .ref (ex_ad E v0)), (1, .int v1), (2, .ref (ex_ad E v2)), (3, .int v3), (4, .int v4)]) dX5_valueOf_4 (by decide) rfl ?_
  exact gx_sub [2, 3, 4, 5, 6, 1, 0] rfl h
set_option maxHeartbeats 4000000 in
set_option maxRecDepth 100000 in
theorem w_X5_valueOf_6 {E : gx_E} (X : gx_X E cX5_valueOf 7 RX5 (some .int)) (hd : 2 ≤ ex_d E) {post : Int32 → gx_S → Prop} (hQ : ex_Q E = va_Qi post (gx_B (ex_Z E)) (gx_A (ex_Z E))) {u : gx_S} {v0 : Nat} {v1 : Int32} {v2 : Nat} {v3 : Int32} {v4 : Int32} {v5 : Int32} {v6 : Int32} (h : (((40 : Int32) ≤ v6 → post (-2 : Int32) u) ∧ (¬ (40 : Int32) ≤ v6 → ((v1 ≤ v5 → post (-2 : Int32) u) ∧ (¬ v1 ≤ v5 → (S_X5_lettersLength u v0 v5 (fun (r2 : Int32) (u1 : gx_S) => ((¬ r2 = v4 → (gx_isO v0 0 ∧ S_X0_find u1 v0 (59 : Int32) v5 (fun (r5 : Int32) (u4 : gx_S) => (∀ x6 : Int32, x6 = (r5 + (1 : Int32)) → (∀ x7 : Int32, x7 = v6 + 1 → J_X5_valueOf_6 E v0 v1 v2 v3 v4 x6 x7 u4))))) ∧ (r2 = v4 → (S_X5_isSame u1 v0 v5 v2 v3 v4 (fun (r9 : Int32) (u8 : gx_S) => ((r9 = 0 → (gx_isO v0 0 ∧ S_X0_find u8 v0 (59 : Int32) v5 (fun (r12 : Int32) (u11 : gx_S) => (∀ x13 : Int32, x13 = (r12 + (1 : Int32)) → (∀ x14 : Int32, x14 = v6 + 1 → J_X5_valueOf_6 E v0 v1 v2 v3 v4 x13 x14 u11))))) ∧ (¬ r9 = 0 → post ((v5 + v4) + (1 : Int32)) u8))))))))))))) : gx_Wc E 7 6 [(0, .ref (ex_ad E v0)), (1, .int v1), (2, .ref (ex_ad E v2)), (3, .int v3), (4, .int v4), (5, .int v5), (6, .int v6)] [] u := by
  refine gx_iload X (j := 6) dX5_valueOf_6 rfl ?_
  refine gx_bipush X (v := 40) dX5_valueOf_8 (by decide) ?_
  refine gx_icmp_ge X (tgt := 69) dX5_valueOf_10 (by decide) (fun c18 => ?_) (fun c18 => ?_)
  · replace h := h.1 c18
    refine gx_bipush X (v := -2) dX5_valueOf_69 (by decide) ?_
    exact gx_iret X hQ h dX5_valueOf_71
  · replace h := h.2 c18
    refine gx_iload X (j := 5) dX5_valueOf_13 rfl ?_
    refine gx_iload_n X (j := 1) dX5_valueOf_15 rfl rfl ?_
    refine gx_icmp_ge X (tgt := 69) dX5_valueOf_16 (by decide) (fun c17 => ?_) (fun c17 => ?_)
    · replace h := h.1 c17
      refine gx_bipush X (v := -2) dX5_valueOf_69 (by decide) ?_
      exact gx_iret X hQ h dX5_valueOf_71
    · replace h := h.2 c17
      refine gx_aload_n X (j := 0) dX5_valueOf_19 rfl rfl ?_
      refine gx_iload X (j := 5) dX5_valueOf_20 rfl ?_
      refine gx_ki (gx_rS X (c_X5_lettersLength h) (Nat.le_trans (by decide) hd) (Nat.le_trans (by decide) (Nat.mul_le_mul_left 40 hd)) mw_275 mw_276 mw_4 mw_277 hyX5_lettersLength (As := [.ref (ex_ad E v0), .int v5]) (rest := []) rfl rfl (Nat.le_of_ble_eq_true rfl) dX5_valueOf_22) (fun r2 u1 h => ?_)
      refine gx_iload X (j := 4) dX5_valueOf_25 rfl ?_
      refine gx_icmp_ne X (tgt := 51) dX5_valueOf_27 (by decide) (fun c16 => ?_) (fun c16 => ?_)
      · replace h := h.1 c16
        refine gx_aload_n X (j := 0) dX5_valueOf_51 rfl rfl ?_
        refine gx_bipush X (v := 59) dX5_valueOf_52 (by decide) ?_
        refine gx_iload X (j := 5) dX5_valueOf_54 rfl ?_
        obtain ⟨k3, h⟩ := h
        refine gx_ki (gx_rV X (c_X0_find h) (Nat.le_trans (by decide) hd) (Nat.le_trans (by decide) (Nat.mul_le_mul_left 40 hd)) k3 rfl mw_285 mw_286 mw_287 mw_2 mw_288 hyX0_find (As := [.int (59 : Int32), .int v5]) (rest := []) rfl rfl (Nat.le_of_ble_eq_true rfl) dX5_valueOf_56) (fun r5 u4 h => ?_)
        refine gx_iconst X (v := 1) dX5_valueOf_59 (by decide) ?_
        refine gx_iadd X dX5_valueOf_60 ?_
        refine gx_nami (fun x6 ex6 => ?_)
        replace h := h x6 ex6
        refine gx_istore X (lv' := [(5, .int x6), (0, .ref (ex_ad E v0)), (1, .int v1), (2, .ref (ex_ad E v2)), (3, .int v3), (4, .int v4), (6, .int v6)]) dX5_valueOf_61 (by decide) rfl ?_
        obtain ⟨x7, ex7⟩ : ∃ y : Int32, y = v6 + 1 := ⟨_, rfl⟩
        replace h := h x7 ex7
        refine gx_iinc X (v := x7) (lv' := [(6, .int x7), (5, .int x6), (0, .ref (ex_ad E v0)), (1, .int v1), (2, .ref (ex_ad E v2)), (3, .int v3), (4, .int v4)]) dX5_valueOf_63 (j := 6) rfl (by rw [ex7]; rfl) (by decide) rfl ?_
        refine gx_goto X (tgt := 6) dX5_valueOf_66 (by decide) ?_
        exact gx_sub [2, 3, 4, 5, 6, 1, 0] rfl h
      · replace h := h.2 c16
        refine gx_aload_n X (j := 0) dX5_valueOf_30 rfl rfl ?_
        refine gx_iload X (j := 5) dX5_valueOf_31 rfl ?_
        refine gx_aload_n X (j := 2) dX5_valueOf_33 rfl rfl ?_
        refine gx_iload_n X (j := 3) dX5_valueOf_34 rfl rfl ?_
        refine gx_iload X (j := 4) dX5_valueOf_35 rfl ?_
        refine gx_ki (gx_rS X (c_X5_isSame h) (Nat.le_trans (by decide) hd) (Nat.le_trans (by decide) (Nat.mul_le_mul_left 40 hd)) mw_282 mw_283 mw_4 mw_284 hyX5_isSame (As := [.ref (ex_ad E v0), .int v5, .ref (ex_ad E v2), .int v3, .int v4]) (rest := []) rfl rfl (Nat.le_of_ble_eq_true rfl) dX5_valueOf_37) (fun r9 u8 h => ?_)
        refine gx_if_eq X (tgt := 51) dX5_valueOf_40 (by decide) (fun c15 => ?_) (fun c15 => ?_)
        · replace h := h.1 c15
          refine gx_aload_n X (j := 0) dX5_valueOf_51 rfl rfl ?_
          refine gx_bipush X (v := 59) dX5_valueOf_52 (by decide) ?_
          refine gx_iload X (j := 5) dX5_valueOf_54 rfl ?_
          obtain ⟨k10, h⟩ := h
          refine gx_ki (gx_rV X (c_X0_find h) (Nat.le_trans (by decide) hd) (Nat.le_trans (by decide) (Nat.mul_le_mul_left 40 hd)) k10 rfl mw_285 mw_286 mw_287 mw_2 mw_288 hyX0_find (As := [.int (59 : Int32), .int v5]) (rest := []) rfl rfl (Nat.le_of_ble_eq_true rfl) dX5_valueOf_56) (fun r12 u11 h => ?_)
          refine gx_iconst X (v := 1) dX5_valueOf_59 (by decide) ?_
          refine gx_iadd X dX5_valueOf_60 ?_
          refine gx_nami (fun x13 ex13 => ?_)
          replace h := h x13 ex13
          refine gx_istore X (lv' := [(5, .int x13), (0, .ref (ex_ad E v0)), (1, .int v1), (2, .ref (ex_ad E v2)), (3, .int v3), (4, .int v4), (6, .int v6)]) dX5_valueOf_61 (by decide) rfl ?_
          obtain ⟨x14, ex14⟩ : ∃ y : Int32, y = v6 + 1 := ⟨_, rfl⟩
          replace h := h x14 ex14
          refine gx_iinc X (v := x14) (lv' := [(6, .int x14), (5, .int x13), (0, .ref (ex_ad E v0)), (1, .int v1), (2, .ref (ex_ad E v2)), (3, .int v3), (4, .int v4)]) dX5_valueOf_63 (j := 6) rfl (by rw [ex14]; rfl) (by decide) rfl ?_
          refine gx_goto X (tgt := 6) dX5_valueOf_66 (by decide) ?_
          exact gx_sub [2, 3, 4, 5, 6, 1, 0] rfl h
        · replace h := h.2 c15
          refine gx_iload X (j := 5) dX5_valueOf_43 rfl ?_
          refine gx_iload X (j := 4) dX5_valueOf_45 rfl ?_
          refine gx_iadd X dX5_valueOf_47 ?_
          refine gx_iconst X (v := 1) dX5_valueOf_48 (by decide) ?_
          refine gx_iadd X dX5_valueOf_49 ?_
          exact gx_iret X hQ h dX5_valueOf_50
theorem fndF_le (M : List Nat) (c : Nat) : ∀ k i, k = M.length - i → fndF M c k i ≤ M.length
  | 0, _, _ => Nat.le_refl _
  | k + 1, i, h => by
    unfold fndF
    split
    · omega
    · exact fndF_le M c k (i + 1) (by omega)
theorem fnd_le (M : List Nat) (c i : Nat) : fnd M c i ≤ M.length := fndF_le M c _ i rfl
def oI (x : Option Nat) : Int32 := match x with
  | some n => nI n
  | none => -2
def voF (M : List Nat) (bef : Nat) (N : List Nat) (q n : Nat) : Nat → Nat → Option Nat
  | 0, _ => none
  | k + 1, p => if bef ≤ p then none else if lettLen M p = n ∧ samF M p N q n 0 = true then some (p + n + 1) else voF M bef N q n k (fnd M 59 p + 1)
/-- where the value begins of the tag whose letters stand in N at q -/
def vo (M : List Nat) (bef : Nat) (N : List Nat) (q n : Nat) : Option Nat := voF M bef N q n 40 0
theorem voF_lt {M : List Nat} {bef : Nat} {N : List Nat} {q n v : Nat} : ∀ k p, voF M bef N q n k p = some v → v < bef + n + 1
  | 0, _, h => by cases h
  | k + 1, p, h => by
    unfold voF at h
    split at h
    · cases h
    · split at h
      · cases h; omega
      · exact voF_lt k _ h
def S_X5_valueOf (u : gx_S) (v0 : Nat) (v1 : Int32) (v2 : Nat) (v3 v4 : Int32) (post : Int32 → gx_S → Prop) : Prop := ∃ (M N : List Nat) (bef q n : Nat), byL u v0 M ∧ byL u v2 N ∧ bef < 2 ^ 28 ∧ q < 2 ^ 28 ∧ n < 2 ^ 28 ∧ v1 = nI bef ∧ v3 = nI q ∧ v4 = nI n ∧ post (oI (vo M bef N q n)) u
theorem lp_X5_valueOf {E : gx_E} (X : gx_X E cX5_valueOf 7 RX5 (some .int)) (hd : 2 ≤ ex_d E) {post : Int32 → gx_S → Prop} (hQ : ex_Q E = va_Qi post (gx_B (ex_Z E)) (gx_A (ex_Z E))) {v0 v2 bef q n : Nat} {M N : List Nat} {u : gx_S} (hM : byL u v0 M) (hN : byL u v2 N) (hb : bef < 2 ^ 28) (hq : q < 2 ^ 28) (hn : n < 2 ^ 28) :
    ∀ (k t p : Nat), 40 - t = k → t ≤ 40 → p < 2 ^ 28 → post (oI (voF M bef N q n k p)) u → J_X5_valueOf_6 E v0 (nI bef) v2 (nI q) (nI n) (nI p) (nI t) u := by
  have hM2 := hM.2.2.2.2.1
  intro k
  induction k with
  | zero =>
    intro t p hk ht hp h
    refine w_X5_valueOf_6 X hd hQ ⟨fun _ => h, fun z => absurd (nI_le (a := 40) (by omega) (by omega)) z⟩
  | succ k ih =>
    intro t p hk ht hp h
    have h8 := lettLen_le M p
    have hfl := fnd_le M 59 p
    unfold voF at h
    refine w_X5_valueOf_6 X hd hQ ⟨fun z => absurd z (nI_ge (b := 40) (by omega) (by omega)), fun _ => ⟨fun z => ?_, fun z => ?_⟩⟩
    · rw [nI_leI (by omega) (by omega)] at z
      rw [if_pos z] at h; exact h
    · rw [nI_leI (by omega) (by omega)] at z
      rw [if_neg z] at h
      refine ⟨M, p, hM, by omega, rfl, ⟨fun z1 => ⟨hM.1, M, 59, p, hM, by omega, rfl, by omega, rfl, ?_⟩, fun z1 => ⟨M, N, p, q, n, hM, hN, by omega, by omega, by omega, rfl, rfl, rfl, ⟨fun z2 => ⟨hM.1, M, 59, p, hM, by omega, rfl, by omega, rfl, ?_⟩, fun z2 => ?_⟩⟩⟩⟩
      · rintro x6 rfl x7 rfl
        rw [nI_1, nI_1]
        rw [if_neg (fun e => z1 (by rw [e.1]))] at h
        exact ih (t + 1) _ (by omega) (by omega) (by omega) h
      · rintro x13 rfl x14 rfl
        rw [nI_1, nI_1]
        rw [b2_0] at z2
        rw [if_neg (fun e => by rw [z2] at e; exact absurd e.2 (by decide))] at h
        exact ih (t + 1) _ (by omega) (by omega) (by omega) h
      · rw [if_pos ⟨(nI_eq (by omega) (by omega)).mp z1, b2_n0 z2⟩] at h
        rw [nI_add, nI_1]; exact h
theorem w_X5_valueOf {E : gx_E} (X : gx_X E cX5_valueOf 7 RX5 (some .int)) (hd : 2 ≤ ex_d E) {post : Int32 → gx_S → Prop} (hQ : ex_Q E = va_Qi post (gx_B (ex_Z E)) (gx_A (ex_Z E))) {u : gx_S} {v0 : Nat} {v1 : Int32} {v2 : Nat} {v3 v4 : Int32} (h : S_X5_valueOf u v0 v1 v2 v3 v4 post) : gx_Wc E 7 0 [(0, .ref (ex_ad E v0)), (1, .int v1), (2, .ref (ex_ad E v2)), (3, .int v3), (4, .int v4)] [] u := by
  obtain ⟨M, N, bef, q, n, hM, hN, hb, hq, hn, rfl, rfl, rfl, h⟩ := h
  exact w_X5_valueOf_0 X hd hQ (lp_X5_valueOf X hd hQ hM hN hb hq hn 40 0 0 (by omega) (by omega) (by omega) h)
theorem c_X5_valueOf {l : Launch} {Z : gx_Z} {u : gx_S} {v0 : Nat} {v1 : Int32} {v2 : Nat} {v3 : Int32} {v4 : Int32} {post : Int32 → gx_S → Prop} (h : S_X5_valueOf u v0 v1 v2 v3 v4 post) : Met l yX5_valueOf (Cond.code yX5_valueOf cX5_valueOf 7 (some .int) :: gx_TB) (gx_rm 2) (gx_Pre Z u [.ref (Z.2.1 v0), .int v1, .ref (Z.2.1 v2), .int v3, .int v4]) (va_Qi post (gx_B Z) (gx_A Z)) 0 0 (gx_A Z) := by
  refine gx_met (by decide +kernel) (Nat.le_of_ble_eq_true rfl) ?_
  intro E X hZ hQ hD hL
  subst hZ
  exact w_X5_valueOf X (Nat.le_of_eq hD.symm) hQ h
-- PlainSeal$TagList.countTags(LPlainSeal$Bytes;)I
theorem dX5_countTags_0 : decode cX5_countTags 0 = .ok (.iconst 0, 1) := by decide +kernel
theorem dX5_countTags_1 : decode cX5_countTags 1 = .ok (.istore_n 1, 1) := by decide +kernel
theorem dX5_countTags_2 : decode cX5_countTags 2 = .ok (.iconst 1, 1) := by decide +kernel
theorem dX5_countTags_3 : decode cX5_countTags 3 = .ok (.istore_n 2, 1) := by decide +kernel
theorem dX5_countTags_4 : decode cX5_countTags 4 = .ok (.iload_n 2, 1) := by decide +kernel
theorem dX5_countTags_5 : decode cX5_countTags 5 = .ok (.bipush 40, 2) := by decide +kernel
theorem dX5_countTags_7 : decode cX5_countTags 7 = .ok (.if_icmp .gt 59, 3) := by decide +kernel
theorem dX5_countTags_10 : decode cX5_countTags 10 = .ok (.aload_n 0, 1) := by decide +kernel
theorem dX5_countTags_11 : decode cX5_countTags 11 = .ok (.iload_n 1, 1) := by decide +kernel
theorem dX5_countTags_12 : decode cX5_countTags 12 = .ok (.invokestatic 41, 3) := by decide +kernel
theorem dX5_countTags_15 : decode cX5_countTags 15 = .ok (.istore_n 3, 1) := by decide +kernel
theorem dX5_countTags_16 : decode cX5_countTags 16 = .ok (.iload_n 3, 1) := by decide +kernel
theorem dX5_countTags_17 : decode cX5_countTags 17 = .ok (.ifCond .eq 16, 3) := by decide +kernel
theorem dX5_countTags_20 : decode cX5_countTags 20 = .ok (.aload_n 0, 1) := by decide +kernel
theorem dX5_countTags_21 : decode cX5_countTags 21 = .ok (.iload_n 1, 1) := by decide +kernel
theorem dX5_countTags_22 : decode cX5_countTags 22 = .ok (.aload_n 0, 1) := by decide +kernel
theorem dX5_countTags_23 : decode cX5_countTags 23 = .ok (.iload_n 1, 1) := by decide +kernel
theorem dX5_countTags_24 : decode cX5_countTags 24 = .ok (.iload_n 3, 1) := by decide +kernel
theorem dX5_countTags_25 : decode cX5_countTags 25 = .ok (.invokestatic 45, 3) := by decide +kernel
theorem dX5_countTags_28 : decode cX5_countTags 28 = .ok (.bipush (-2), 2) := by decide +kernel
theorem dX5_countTags_30 : decode cX5_countTags 30 = .ok (.if_icmp .eq 5, 3) := by decide +kernel
theorem dX5_countTags_33 : decode cX5_countTags 33 = .ok (.iconst 0, 1) := by decide +kernel
theorem dX5_countTags_34 : decode cX5_countTags 34 = .ok (.ireturn, 1) := by decide +kernel
theorem dX5_countTags_35 : decode cX5_countTags 35 = .ok (.aload_n 0, 1) := by decide +kernel
theorem dX5_countTags_36 : decode cX5_countTags 36 = .ok (.bipush 59, 2) := by decide +kernel
theorem dX5_countTags_38 : decode cX5_countTags 38 = .ok (.iload_n 1, 1) := by decide +kernel
theorem dX5_countTags_39 : decode cX5_countTags 39 = .ok (.invokevirtual 49, 3) := by decide +kernel
theorem dX5_countTags_42 : decode cX5_countTags 42 = .ok (.istore 4, 2) := by decide +kernel
theorem dX5_countTags_44 : decode cX5_countTags 44 = .ok (.iload 4, 2) := by decide +kernel
theorem dX5_countTags_46 : decode cX5_countTags 46 = .ok (.aload_n 0, 1) := by decide +kernel
theorem dX5_countTags_47 : decode cX5_countTags 47 = .ok (.invokevirtual 21, 3) := by decide +kernel
theorem dX5_countTags_50 : decode cX5_countTags 50 = .ok (.if_icmp .lt 5, 3) := by decide +kernel
theorem dX5_countTags_53 : decode cX5_countTags 53 = .ok (.iload_n 2, 1) := by decide +kernel
theorem dX5_countTags_54 : decode cX5_countTags 54 = .ok (.ireturn, 1) := by decide +kernel
theorem dX5_countTags_55 : decode cX5_countTags 55 = .ok (.iload 4, 2) := by decide +kernel
theorem dX5_countTags_57 : decode cX5_countTags 57 = .ok (.iconst 1, 1) := by decide +kernel
theorem dX5_countTags_58 : decode cX5_countTags 58 = .ok (.iadd, 1) := by decide +kernel
theorem dX5_countTags_59 : decode cX5_countTags 59 = .ok (.istore_n 1, 1) := by decide +kernel
theorem dX5_countTags_60 : decode cX5_countTags 60 = .ok (.iinc 2 1, 3) := by decide +kernel
theorem dX5_countTags_63 : decode cX5_countTags 63 = .ok (.goto (-59), 3) := by decide +kernel
theorem dX5_countTags_66 : decode cX5_countTags 66 = .ok (.iconst 0, 1) := by decide +kernel
theorem dX5_countTags_67 : decode cX5_countTags 67 = .ok (.ireturn, 1) := by decide +kernel
theorem hyX5_countTags : yX5_countTags.cls ≠ "java/lang/invoke/MethodHandle" ∧ yX5_countTags.cls ≠ "java/lang/invoke/VarHandle" ∧ (parseMethodDescriptor yX5_countTags.desc).map (fun d => d.parameters.length) = some 1 := by decide +kernel
abbrev J_X5_countTags_4 (E : gx_E) (v0 : Nat) (v1 : Int32) (v2 : Int32) (u : gx_S) : Prop := gx_Wc E 5 4 [(0, .ref (ex_ad E v0)), (1, .int v1), (2, .int v2)] [] u
set_option maxHeartbeats 4000000 in
set_option maxRecDepth 100000 in
theorem w_X5_countTags_0 {E : gx_E} (X : gx_X E cX5_countTags 5 RX5 (some .int)) (hd : 3 ≤ ex_d E) {post : Int32 → gx_S → Prop} (hQ : ex_Q E = va_Qi post (gx_B (ex_Z E)) (gx_A (ex_Z E))) {u : gx_S} {v0 : Nat} (h : J_X5_countTags_4 E v0 (0 : Int32) (1 : Int32) u) : gx_Wc E 5 0 [(0, .ref (ex_ad E v0))] [] u := by
  refine gx_iconst X (v := 0) dX5_countTags_0 (by decide) ?_
  refine gx_istore_n X (lv' := [(1, .int (0 : Int32)), (0, .ref (ex_ad E v0))]) dX5_countTags_1 rfl (by decide) rfl ?_
  refine gx_iconst X (v := 1) dX5_countTags_2 (by decide) ?_
  refine gx_istore_n X (lv' := [(2, .int (1 : Int32)), (1, .int (0 : Int32)), (0, .ref (ex_ad E v0))]) dX5_countTags_3 rfl (by decide) rfl ?_
  exact gx_sub [2, 1, 0] rfl h
set_option maxHeartbeats 4000000 in
set_option maxRecDepth 100000 in
theorem w_X5_countTags_4 {E : gx_E} (X : gx_X E cX5_countTags 5 RX5 (some .int)) (hd : 3 ≤ ex_d E) {post : Int32 → gx_S → Prop} (hQ : ex_Q E = va_Qi post (gx_B (ex_Z E)) (gx_A (ex_Z E))) {u : gx_S} {v0 : Nat} {v1 : Int32} {v2 : Int32} (h : (((40 : Int32) < v2 → post (0 : Int32) u) ∧ (¬ (40 : Int32) < v2 → (S_X5_lettersLength u v0 v1 (fun (r2 : Int32) (u1 : gx_S) => ((r2 = 0 → post (0 : Int32) u1) ∧ (¬ r2 = 0 → (S_X5_valueOf u1 v0 v1 v0 v1 r2 (fun (r4 : Int32) (u3 : gx_S) => ((r4 = (-2 : Int32) → (gx_isO v0 0 ∧ S_X0_find u3 v0 (59 : Int32) v1 (fun (r7 : Int32) (u6 : gx_S) => (S_X0_size u6 v0 (fun (r9 : Int32) (u8 : gx_S) => ((r7 < r9 → (∀ x10 : Int32, x10 = (r7 + (1 : Int32)) → (∀ x11 : Int32, x11 = v2 + 1 → J_X5_countTags_4 E v0 x10 x11 u8))) ∧ (¬ r7 < r9 → post v2 u8))))))) ∧ (¬ r4 = (-2 : Int32) → post (0 : Int32) u3))))))))))) : gx_Wc E 5 4 [(0, .ref (ex_ad E v0)), (1, .int v1), (2, .int v2)] [] u := by
  refine gx_iload_n X (j := 2) dX5_countTags_4 rfl rfl ?_
  refine gx_bipush X (v := 40) dX5_countTags_5 (by decide) ?_
  refine gx_icmp_gt X (tgt := 66) dX5_countTags_7 (by decide) (fun c15 => ?_) (fun c15 => ?_)
  · replace h := h.1 c15
    refine gx_iconst X (v := 0) dX5_countTags_66 (by decide) ?_
    exact gx_iret X hQ h dX5_countTags_67
  · replace h := h.2 c15
    refine gx_aload_n X (j := 0) dX5_countTags_10 rfl rfl ?_
    refine gx_iload_n X (j := 1) dX5_countTags_11 rfl rfl ?_
    refine gx_ki (gx_rS X (c_X5_lettersLength h) (Nat.le_trans (by decide) hd) (Nat.le_trans (by decide) (Nat.mul_le_mul_left 40 hd)) mw_275 mw_276 mw_4 mw_277 hyX5_lettersLength (As := [.ref (ex_ad E v0), .int v1]) (rest := []) rfl rfl (Nat.le_of_ble_eq_true rfl) dX5_countTags_12) (fun r2 u1 h => ?_)
    refine gx_istore_n X (lv' := [(3, .int r2), (0, .ref (ex_ad E v0)), (1, .int v1), (2, .int v2)]) dX5_countTags_15 rfl (by decide) rfl ?_
    refine gx_iload_n X (j := 0) dX5_countTags_16 rfl rfl ?_
    refine gx_if_eq X (tgt := 33) dX5_countTags_17 (by decide) (fun c14 => ?_) (fun c14 => ?_)
    · replace h := h.1 c14
      refine gx_iconst X (v := 0) dX5_countTags_33 (by decide) ?_
      exact gx_iret X hQ h dX5_countTags_34
    · replace h := h.2 c14
      refine gx_aload_n X (j := 1) dX5_countTags_20 rfl rfl ?_
      refine gx_iload_n X (j := 2) dX5_countTags_21 rfl rfl ?_
      refine gx_aload_n X (j := 1) dX5_countTags_22 rfl rfl ?_
      refine gx_iload_n X (j := 2) dX5_countTags_23 rfl rfl ?_
      refine gx_iload_n X (j := 0) dX5_countTags_24 rfl rfl ?_
      refine gx_ki (gx_rS X (c_X5_valueOf h) (Nat.le_trans (by decide) hd) (Nat.le_trans (by decide) (Nat.mul_le_mul_left 40 hd)) mw_279 mw_280 mw_4 mw_281 hyX5_valueOf (As := [.ref (ex_ad E v0), .int v1, .ref (ex_ad E v0), .int v1, .int r2]) (rest := []) rfl rfl (Nat.le_of_ble_eq_true rfl) dX5_countTags_25) (fun r4 u3 h => ?_)
      refine gx_bipush X (v := -2) dX5_countTags_28 (by decide) ?_
      refine gx_icmp_eq X (tgt := 35) dX5_countTags_30 (by decide) (fun c13 => ?_) (fun c13 => ?_)
      · replace h := h.1 c13
        refine gx_aload_n X (j := 1) dX5_countTags_35 rfl rfl ?_
        refine gx_bipush X (v := 59) dX5_countTags_36 (by decide) ?_
        refine gx_iload_n X (j := 2) dX5_countTags_38 rfl rfl ?_
        obtain ⟨k5, h⟩ := h
        refine gx_ki (gx_rV X (c_X0_find h) (Nat.le_trans (by decide) hd) (Nat.le_trans (by decide) (Nat.mul_le_mul_left 40 hd)) k5 rfl mw_285 mw_286 mw_287 mw_2 mw_288 hyX0_find (As := [.int (59 : Int32), .int v1]) (rest := []) rfl rfl (Nat.le_of_ble_eq_true rfl) dX5_countTags_39) (fun r7 u6 h => ?_)
        refine gx_istore X (lv' := [(4, .int r7), (3, .int r2), (0, .ref (ex_ad E v0)), (1, .int v1), (2, .int v2)]) dX5_countTags_42 (by decide) rfl ?_
        refine gx_iload X (j := 0) dX5_countTags_44 rfl ?_
        refine gx_aload_n X (j := 2) dX5_countTags_46 rfl rfl ?_
        refine gx_ki (gx_rV X (c_X0_size h) (Nat.le_trans (by decide) hd) (Nat.le_trans (by decide) (Nat.mul_le_mul_left 40 hd)) k5 rfl mw_269 mw_128 mw_129 mw_2 mw_130 hyX0_size (As := []) (rest := [.int r7]) rfl rfl (Nat.le_of_ble_eq_true rfl) dX5_countTags_47) (fun r9 u8 h => ?_)
        refine gx_icmp_lt X (tgt := 55) dX5_countTags_50 (by decide) (fun c12 => ?_) (fun c12 => ?_)
        · replace h := h.1 c12
          refine gx_iload X (j := 0) dX5_countTags_55 rfl ?_
          refine gx_iconst X (v := 1) dX5_countTags_57 (by decide) ?_
          refine gx_iadd X dX5_countTags_58 ?_
          refine gx_nami (fun x10 ex10 => ?_)
          replace h := h x10 ex10
          refine gx_istore_n X (lv' := [(1, .int x10), (4, .int r7), (3, .int r2), (0, .ref (ex_ad E v0)), (2, .int v2)]) dX5_countTags_59 rfl (by decide) rfl ?_
          obtain ⟨x11, ex11⟩ : ∃ y : Int32, y = v2 + 1 := ⟨_, rfl⟩
          replace h := h x11 ex11
          refine gx_iinc X (v := x11) (lv' := [(2, .int x11), (1, .int x10), (4, .int r7), (3, .int r2), (0, .ref (ex_ad E v0))]) dX5_countTags_60 (j := 4) rfl (by rw [ex11]; rfl) (by decide) rfl ?_
          refine gx_goto X (tgt := 4) dX5_countTags_63 (by decide) ?_
          exact gx_sub [4, 1, 0] rfl h
        · replace h := h.2 c12
          refine gx_iload_n X (j := 4) dX5_countTags_53 rfl rfl ?_
          exact gx_iret X hQ h dX5_countTags_54
      · replace h := h.2 c13
        refine gx_iconst X (v := 0) dX5_countTags_33 (by decide) ?_
        exact gx_iret X hQ h dX5_countTags_34
def ctF (M : List Nat) : Nat → Nat → Nat → Nat
  | 0, _, _ => 0
  | k + 1, f, p => if lettLen M p = 0 then 0 else if vo M p M p (lettLen M p) = none then (if fnd M 59 p < M.length then ctF M k (f + 1) (fnd M 59 p + 1) else f) else 0
/-- how many tags a bare row has; 0: it is none -/
def ct (M : List Nat) : Nat := ctF M 40 1 0
theorem ctF_le (M : List Nat) : ∀ k f p, f + k ≤ 41 → ctF M k f p ≤ 40
  | 0, _, _, _ => by simp [ctF]
  | k + 1, f, p, h => by
    unfold ctF
    split
    · omega
    · split
      · split
        · exact ctF_le M k _ _ (by omega)
        · omega
      · omega
theorem ct_le (M : List Nat) : ct M ≤ 40 := ctF_le M 40 1 0 (by omega)
theorem oI_none {x : Option Nat} (hx : ∀ v, x = some v → v < 2 ^ 31) : oI x = -2 ↔ x = none := by
  cases x with
  | none => simp [oI]
  | some v =>
    constructor
    · intro e; exact absurd e.symm (nI_neg2 (hx v rfl))
    · intro e; cases e
def S_X5_countTags (u : gx_S) (v0 : Nat) (post : Int32 → gx_S → Prop) : Prop := ∃ M : List Nat, byL u v0 M ∧ post (nI (ct M)) u
theorem lp_X5_countTags {E : gx_E} (X : gx_X E cX5_countTags 5 RX5 (some .int)) (hd : 3 ≤ ex_d E) {post : Int32 → gx_S → Prop} (hQ : ex_Q E = va_Qi post (gx_B (ex_Z E)) (gx_A (ex_Z E))) {v0 : Nat} {M : List Nat} {u : gx_S} (hM : byL u v0 M) :
    ∀ (k f p : Nat), 41 - f = k → f ≤ 41 → p < 2 ^ 27 → post (nI (ctF M k f p)) u → J_X5_countTags_4 E v0 (nI p) (nI f) u := by
  have hM2 := hM.2.2.2.2.1
  intro k
  induction k with
  | zero =>
    intro f p hk hf hp h
    refine w_X5_countTags_4 X hd hQ ⟨fun _ => h, fun z => absurd (nI_lt (a := 40) (by omega) (by omega)) z⟩
  | succ k ih =>
    intro f p hk hf hp h
    have h8 := lettLen_le M p
    have hfl := fnd_le M 59 p
    unfold ctF at h
    refine w_X5_countTags_4 X hd hQ ⟨fun z => absurd z (nI_nlt (b := f) (a := 40) (by omega) (by omega)), fun _ => ⟨M, p, hM, by omega, rfl, ⟨fun z => ?_, fun z => ?_⟩⟩⟩
    · rw [if_pos ((nI_eq (b := 0) (by omega) (by omega)).mp z)] at h; exact h
    · rw [if_neg (fun e => z (by rw [e]; rfl))] at h
      have hv : ∀ v, vo M p M p (lettLen M p) = some v → v < 2 ^ 31 := fun v e => by
        have := voF_lt 40 0 e; omega
      refine ⟨M, M, p, p, lettLen M p, hM, hM, by omega, by omega, by omega, rfl, rfl, rfl, ⟨fun z2 => ⟨hM.1, M, 59, p, hM, by omega, rfl, by omega, rfl, i_X0_size hM ⟨fun z3 => ?_, fun z3 => ?_⟩⟩, fun z2 => ?_⟩⟩
      · rintro x10 rfl x11 rfl
        rw [nI_1, nI_1]
        rw [oI_none hv] at z2
        rw [nI_ltI (by omega) (by omega)] at z3
        rw [if_pos z2, if_pos z3] at h
        exact ih (f + 1) _ (by omega) (by omega) (by omega) h
      · rw [oI_none hv] at z2
        rw [nI_ltI (by omega) (by omega)] at z3
        rw [if_pos z2, if_neg z3] at h
        exact h
      · rw [oI_none hv] at z2
        rw [if_neg z2] at h
        exact h
theorem w_X5_countTags {E : gx_E} (X : gx_X E cX5_countTags 5 RX5 (some .int)) (hd : 3 ≤ ex_d E) {post : Int32 → gx_S → Prop} (hQ : ex_Q E = va_Qi post (gx_B (ex_Z E)) (gx_A (ex_Z E))) {u : gx_S} {v0 : Nat} (h : S_X5_countTags u v0 post) : gx_Wc E 5 0 [(0, .ref (ex_ad E v0))] [] u := by
  obtain ⟨M, hM, hp⟩ := h
  exact w_X5_countTags_0 X hd hQ (lp_X5_countTags X hd hQ hM 40 1 0 (by omega) (by omega) (by omega) hp)
theorem c_X5_countTags {l : Launch} {Z : gx_Z} {u : gx_S} {v0 : Nat} {post : Int32 → gx_S → Prop} (h : S_X5_countTags u v0 post) : Met l yX5_countTags (Cond.code yX5_countTags cX5_countTags 5 (some .int) :: gx_TB) (gx_rm 3) (gx_Pre Z u [.ref (Z.2.1 v0)]) (va_Qi post (gx_B Z) (gx_A Z)) 0 0 (gx_A Z) := by
  refine gx_met (by decide +kernel) (Nat.le_of_ble_eq_true rfl) ?_
  intro E X hZ hQ hD hL
  subst hZ
  exact w_X5_countTags X (Nat.le_of_eq hD.symm) hQ h
-- PlainSeal$TagList.read(LPlainSeal$Bytes;)I
theorem dX5_read_0 : decode cX5_read 0 = .ok (.aload_n 1, 1) := by decide +kernel
theorem dX5_read_1 : decode cX5_read 1 = .ok (.invokevirtual 18, 3) := by decide +kernel
theorem dX5_read_4 : decode cX5_read 4 = .ok (.aload_n 1, 1) := by decide +kernel
theorem dX5_read_5 : decode cX5_read 5 = .ok (.aload_n 1, 1) := by decide +kernel
theorem dX5_read_6 : decode cX5_read 6 = .ok (.invokevirtual 21, 3) := by decide +kernel
theorem dX5_read_9 : decode cX5_read 9 = .ok (.iconst 1, 1) := by decide +kernel
theorem dX5_read_10 : decode cX5_read 10 = .ok (.isub, 1) := by decide +kernel
theorem dX5_read_11 : decode cX5_read 11 = .ok (.invokevirtual 25, 3) := by decide +kernel
theorem dX5_read_14 : decode cX5_read 14 = .ok (.bipush 59, 2) := by decide +kernel
theorem dX5_read_16 : decode cX5_read 16 = .ok (.if_icmp .ne 13, 3) := by decide +kernel
theorem dX5_read_19 : decode cX5_read 19 = .ok (.aload_n 1, 1) := by decide +kernel
theorem dX5_read_20 : decode cX5_read 20 = .ok (.aload_n 1, 1) := by decide +kernel
theorem dX5_read_21 : decode cX5_read 21 = .ok (.invokevirtual 21, 3) := by decide +kernel
theorem dX5_read_24 : decode cX5_read 24 = .ok (.iconst 1, 1) := by decide +kernel
theorem dX5_read_25 : decode cX5_read 25 = .ok (.isub, 1) := by decide +kernel
theorem dX5_read_26 : decode cX5_read 26 = .ok (.invokevirtual 29, 3) := by decide +kernel
theorem dX5_read_29 : decode cX5_read 29 = .ok (.aload_n 1, 1) := by decide +kernel
theorem dX5_read_30 : decode cX5_read 30 = .ok (.invokestatic 33, 3) := by decide +kernel
theorem dX5_read_33 : decode cX5_read 33 = .ok (.istore_n 2, 1) := by decide +kernel
theorem dX5_read_34 : decode cX5_read 34 = .ok (.iload_n 2, 1) := by decide +kernel
theorem dX5_read_35 : decode cX5_read 35 = .ok (.ifCond .ne 5, 3) := by decide +kernel
theorem dX5_read_38 : decode cX5_read 38 = .ok (.iconst (-1), 1) := by decide +kernel
theorem dX5_read_39 : decode cX5_read 39 = .ok (.ireturn, 1) := by decide +kernel
theorem dX5_read_40 : decode cX5_read 40 = .ok (.aload_n 0, 1) := by decide +kernel
theorem dX5_read_41 : decode cX5_read 41 = .ok (.getfield 12, 3) := by decide +kernel
theorem dX5_read_44 : decode cX5_read 44 = .ok (.aload_n 1, 1) := by decide +kernel
theorem dX5_read_45 : decode cX5_read 45 = .ok (.invokevirtual 37, 3) := by decide +kernel
theorem dX5_read_48 : decode cX5_read 48 = .ok (.iload_n 2, 1) := by decide +kernel
theorem dX5_read_49 : decode cX5_read 49 = .ok (.ireturn, 1) := by decide +kernel
theorem hyX5_read : yX5_read.cls ≠ "java/lang/invoke/MethodHandle" ∧ yX5_read.cls ≠ "java/lang/invoke/VarHandle" ∧ (parseMethodDescriptor yX5_read.desc).map (fun d => d.parameters.length) = some 1 := by decide +kernel
def S_X5_read (u : gx_S) (v0 : Nat) (v1 : Nat) (post : Int32 → gx_S → Prop) : Prop := (gx_isO v1 0 ∧ S_X0_dropWhiteAndNewlines u v1 (fun (u2 : gx_S) => (S_X0_size u2 v1 (fun (r4 : Int32) (u3 : gx_S) => (S_X0_at u3 v1 (r4 - (1 : Int32)) (fun (r6 : Int32) (u5 : gx_S) => ((¬ r6 = (59 : Int32) → (S_X5_countTags u5 v1 (fun (r8 : Int32) (u7 : gx_S) => ((¬ r8 = 0 → (gx_isO v0 4 ∧ (gx_isO (gx_r u7 v0 0) 0 ∧ S_X0_become u7 (gx_r u7 v0 0) v1 (fun (u11 : gx_S) => post r8 u11)))) ∧ (r8 = 0 → post (-1 : Int32) u7))))) ∧ (r6 = (59 : Int32) → (S_X0_size u5 v1 (fun (r14 : Int32) (u13 : gx_S) => (S_X0_cutTo u13 v1 (r14 - (1 : Int32)) (fun (u15 : gx_S) => (S_X5_countTags u15 v1 (fun (r17 : Int32) (u16 : gx_S) => ((¬ r17 = 0 → (gx_isO v0 4 ∧ (gx_isO (gx_r u16 v0 0) 0 ∧ S_X0_become u16 (gx_r u16 v0 0) v1 (fun (u20 : gx_S) => post r17 u20)))) ∧ (r17 = 0 → post (-1 : Int32) u16))))))))))))))))
set_option maxHeartbeats 4000000 in
set_option maxRecDepth 100000 in
theorem w_X5_read {E : gx_E} (X : gx_X E cX5_read 3 RX5 (some .int)) (hd : 4 ≤ ex_d E) {post : Int32 → gx_S → Prop} (hQ : ex_Q E = va_Qi post (gx_B (ex_Z E)) (gx_A (ex_Z E))) {u : gx_S} {v0 : Nat} {v1 : Nat} (h : S_X5_read u v0 v1 post) : gx_Wc E 3 0 [(0, .ref (ex_ad E v0)), (1, .ref (ex_ad E v1))] [] u := by
  unfold S_X5_read at h
  refine gx_aload_n X (j := 1) dX5_read_0 rfl rfl ?_
  obtain ⟨k1, h⟩ := h
  refine gx_kv (gx_rV X (c_X0_dropWhiteAndNewlines h) (Nat.le_trans (by decide) hd) (Nat.le_trans (by decide) (Nat.mul_le_mul_left 40 hd)) k1 rfl mw_264 mw_265 mw_266 mw_2 mw_267 hyX0_dropWhiteAndNewlines (As := []) (rest := []) rfl rfl (Nat.le_of_ble_eq_true rfl) dX5_read_1) (fun u2 h => ?_)
  refine gx_aload_n X (j := 1) dX5_read_4 rfl rfl ?_
  refine gx_aload_n X (j := 1) dX5_read_5 rfl rfl ?_
  refine gx_ki (gx_rV X (c_X0_size h) (Nat.le_trans (by decide) hd) (Nat.le_trans (by decide) (Nat.mul_le_mul_left 40 hd)) k1 rfl mw_269 mw_128 mw_129 mw_2 mw_130 hyX0_size (As := []) (rest := [.ref (ex_ad E v1)]) rfl rfl (Nat.le_of_ble_eq_true rfl) dX5_read_6) (fun r4 u3 h => ?_)
  refine gx_iconst X (v := 1) dX5_read_9 (by decide) ?_
  refine gx_isub X dX5_read_10 ?_
  refine gx_ki (gx_rV X (c_X0_at h) (Nat.le_trans (by decide) hd) (Nat.le_trans (by decide) (Nat.mul_le_mul_left 40 hd)) k1 rfl mw_270 mw_163 mw_164 mw_2 mw_165 hyX0_at (As := [.int (r4 - (1 : Int32))]) (rest := []) rfl rfl (Nat.le_of_ble_eq_true rfl) dX5_read_11) (fun r6 u5 h => ?_)
  refine gx_bipush X (v := 59) dX5_read_14 (by decide) ?_
  refine gx_icmp_ne X (tgt := 29) dX5_read_16 (by decide) (fun c22 => ?_) (fun c22 => ?_)
  · replace h := h.1 c22
    refine gx_aload_n X (j := 1) dX5_read_29 rfl rfl ?_
    refine gx_ki (gx_rS X (c_X5_countTags h) (Nat.le_trans (by decide) hd) (Nat.le_trans (by decide) (Nat.mul_le_mul_left 40 hd)) mw_272 mw_273 mw_4 mw_274 hyX5_countTags (As := [.ref (ex_ad E v1)]) (rest := []) rfl rfl (Nat.le_of_ble_eq_true rfl) dX5_read_30) (fun r8 u7 h => ?_)
    refine gx_istore_n X (lv' := [(2, .int r8), (0, .ref (ex_ad E v0)), (1, .ref (ex_ad E v1))]) dX5_read_33 rfl (by decide) rfl ?_
    refine gx_iload_n X (j := 0) dX5_read_34 rfl rfl ?_
    refine gx_if_ne X (tgt := 40) dX5_read_35 (by decide) (fun c12 => ?_) (fun c12 => ?_)
    · replace h := h.1 c12
      refine gx_aload_n X (j := 1) dX5_read_40 rfl rfl ?_
      obtain ⟨k9, h⟩ := h
      refine gx_get X k9 rfl iwX5 0 (by decide) mw_65 (v := .ref (ex_ad E (gx_r u7 v0 0))) rfl dX5_read_41 ?_
      refine gx_aload_n X (j := 2) dX5_read_44 rfl rfl ?_
      obtain ⟨k10, h⟩ := h
      refine gx_kv (gx_rV X (c_X0_become h) (Nat.le_trans (by decide) hd) (Nat.le_trans (by decide) (Nat.mul_le_mul_left 40 hd)) k10 rfl mw_289 mw_188 mw_189 mw_2 mw_190 hyX0_become (As := [.ref (ex_ad E v1)]) (rest := []) rfl rfl (Nat.le_of_ble_eq_true rfl) dX5_read_45) (fun u11 h => ?_)
      refine gx_iload_n X (j := 0) dX5_read_48 rfl rfl ?_
      exact gx_iret X hQ h dX5_read_49
    · replace h := h.2 c12
      refine gx_iconst X (v := -1) dX5_read_38 (by decide) ?_
      exact gx_iret X hQ h dX5_read_39
  · replace h := h.2 c22
    refine gx_aload_n X (j := 1) dX5_read_19 rfl rfl ?_
    refine gx_aload_n X (j := 1) dX5_read_20 rfl rfl ?_
    refine gx_ki (gx_rV X (c_X0_size h) (Nat.le_trans (by decide) hd) (Nat.le_trans (by decide) (Nat.mul_le_mul_left 40 hd)) k1 rfl mw_269 mw_128 mw_129 mw_2 mw_130 hyX0_size (As := []) (rest := [.ref (ex_ad E v1)]) rfl rfl (Nat.le_of_ble_eq_true rfl) dX5_read_21) (fun r14 u13 h => ?_)
    refine gx_iconst X (v := 1) dX5_read_24 (by decide) ?_
    refine gx_isub X dX5_read_25 ?_
    refine gx_kv (gx_rV X (c_X0_cutTo h) (Nat.le_trans (by decide) hd) (Nat.le_trans (by decide) (Nat.mul_le_mul_left 40 hd)) k1 rfl mw_271 mw_144 mw_145 mw_2 mw_146 hyX0_cutTo (As := [.int (r14 - (1 : Int32))]) (rest := []) rfl rfl (Nat.le_of_ble_eq_true rfl) dX5_read_26) (fun u15 h => ?_)
    refine gx_aload_n X (j := 1) dX5_read_29 rfl rfl ?_
    refine gx_ki (gx_rS X (c_X5_countTags h) (Nat.le_trans (by decide) hd) (Nat.le_trans (by decide) (Nat.mul_le_mul_left 40 hd)) mw_272 mw_273 mw_4 mw_274 hyX5_countTags (As := [.ref (ex_ad E v1)]) (rest := []) rfl rfl (Nat.le_of_ble_eq_true rfl) dX5_read_30) (fun r17 u16 h => ?_)
    refine gx_istore_n X (lv' := [(2, .int r17), (0, .ref (ex_ad E v0)), (1, .ref (ex_ad E v1))]) dX5_read_33 rfl (by decide) rfl ?_
    refine gx_iload_n X (j := 0) dX5_read_34 rfl rfl ?_
    refine gx_if_ne X (tgt := 40) dX5_read_35 (by decide) (fun c21 => ?_) (fun c21 => ?_)
    · replace h := h.1 c21
      refine gx_aload_n X (j := 1) dX5_read_40 rfl rfl ?_
      obtain ⟨k18, h⟩ := h
      refine gx_get X k18 rfl iwX5 0 (by decide) mw_65 (v := .ref (ex_ad E (gx_r u16 v0 0))) rfl dX5_read_41 ?_
      refine gx_aload_n X (j := 2) dX5_read_44 rfl rfl ?_
      obtain ⟨k19, h⟩ := h
      refine gx_kv (gx_rV X (c_X0_become h) (Nat.le_trans (by decide) hd) (Nat.le_trans (by decide) (Nat.mul_le_mul_left 40 hd)) k19 rfl mw_289 mw_188 mw_189 mw_2 mw_190 hyX0_become (As := [.ref (ex_ad E v1)]) (rest := []) rfl rfl (Nat.le_of_ble_eq_true rfl) dX5_read_45) (fun u20 h => ?_)
      refine gx_iload_n X (j := 0) dX5_read_48 rfl rfl ?_
      exact gx_iret X hQ h dX5_read_49
    · replace h := h.2 c21
      refine gx_iconst X (v := -1) dX5_read_38 (by decide) ?_
      exact gx_iret X hQ h dX5_read_39
theorem c_X5_read {l : Launch} {Z : gx_Z} {u : gx_S} {v0 : Nat} {v1 : Nat} {post : Int32 → gx_S → Prop} (h : S_X5_read u v0 v1 post) : Met l yX5_read (Cond.code yX5_read cX5_read 3 (some .int) :: gx_TB) (gx_rm 4) (gx_Pre Z u [.ref (Z.2.1 v0), .ref (Z.2.1 v1)]) (va_Qi post (gx_B Z) (gx_A Z)) 0 0 (gx_A Z) := by
  refine gx_met (by decide +kernel) (Nat.le_of_ble_eq_true rfl) ?_
  intro E X hZ hQ hD hL
  subst hZ
  exact w_X5_read X (Nat.le_of_eq hD.symm) hQ h
-- PlainSeal$TagList.writeValue(LPlainSeal$Bytes;LPlainSeal$Bytes;)I
theorem dX5_writeValue_0 : decode cX5_writeValue 0 = .ok (.aload_n 0, 1) := by decide +kernel
theorem dX5_writeValue_1 : decode cX5_writeValue 1 = .ok (.getfield 12, 3) := by decide +kernel
theorem dX5_writeValue_4 : decode cX5_writeValue 4 = .ok (.aload_n 0, 1) := by decide +kernel
theorem dX5_writeValue_5 : decode cX5_writeValue 5 = .ok (.getfield 12, 3) := by decide +kernel
theorem dX5_writeValue_8 : decode cX5_writeValue 8 = .ok (.invokevirtual 21, 3) := by decide +kernel
theorem dX5_writeValue_11 : decode cX5_writeValue 11 = .ok (.aload_n 1, 1) := by decide +kernel
theorem dX5_writeValue_12 : decode cX5_writeValue 12 = .ok (.iconst 0, 1) := by decide +kernel
theorem dX5_writeValue_13 : decode cX5_writeValue 13 = .ok (.aload_n 1, 1) := by decide +kernel
theorem dX5_writeValue_14 : decode cX5_writeValue 14 = .ok (.invokevirtual 21, 3) := by decide +kernel
theorem dX5_writeValue_17 : decode cX5_writeValue 17 = .ok (.invokestatic 45, 3) := by decide +kernel
theorem dX5_writeValue_20 : decode cX5_writeValue 20 = .ok (.istore_n 3, 1) := by decide +kernel
theorem dX5_writeValue_21 : decode cX5_writeValue 21 = .ok (.iload_n 3, 1) := by decide +kernel
theorem dX5_writeValue_22 : decode cX5_writeValue 22 = .ok (.bipush (-2), 2) := by decide +kernel
theorem dX5_writeValue_24 : decode cX5_writeValue 24 = .ok (.if_icmp .ne 6, 3) := by decide +kernel
theorem dX5_writeValue_27 : decode cX5_writeValue 27 = .ok (.bipush (-2), 2) := by decide +kernel
theorem dX5_writeValue_29 : decode cX5_writeValue 29 = .ok (.ireturn, 1) := by decide +kernel
theorem dX5_writeValue_30 : decode cX5_writeValue 30 = .ok (.aload_n 2, 1) := by decide +kernel
theorem dX5_writeValue_31 : decode cX5_writeValue 31 = .ok (.invokevirtual 61, 3) := by decide +kernel
theorem dX5_writeValue_34 : decode cX5_writeValue 34 = .ok (.aload_n 2, 1) := by decide +kernel
theorem dX5_writeValue_35 : decode cX5_writeValue 35 = .ok (.aload_n 0, 1) := by decide +kernel
theorem dX5_writeValue_36 : decode cX5_writeValue 36 = .ok (.getfield 12, 3) := by decide +kernel
theorem dX5_writeValue_39 : decode cX5_writeValue 39 = .ok (.iload_n 3, 1) := by decide +kernel
theorem dX5_writeValue_40 : decode cX5_writeValue 40 = .ok (.aload_n 0, 1) := by decide +kernel
theorem dX5_writeValue_41 : decode cX5_writeValue 41 = .ok (.getfield 12, 3) := by decide +kernel
theorem dX5_writeValue_44 : decode cX5_writeValue 44 = .ok (.bipush 59, 2) := by decide +kernel
theorem dX5_writeValue_46 : decode cX5_writeValue 46 = .ok (.iload_n 3, 1) := by decide +kernel
theorem dX5_writeValue_47 : decode cX5_writeValue 47 = .ok (.invokevirtual 49, 3) := by decide +kernel
theorem dX5_writeValue_50 : decode cX5_writeValue 50 = .ok (.invokevirtual 64, 3) := by decide +kernel
theorem dX5_writeValue_53 : decode cX5_writeValue 53 = .ok (.aload_n 2, 1) := by decide +kernel
theorem dX5_writeValue_54 : decode cX5_writeValue 54 = .ok (.invokevirtual 21, 3) := by decide +kernel
theorem dX5_writeValue_57 : decode cX5_writeValue 57 = .ok (.ireturn, 1) := by decide +kernel
theorem hyX5_writeValue : yX5_writeValue.cls ≠ "java/lang/invoke/MethodHandle" ∧ yX5_writeValue.cls ≠ "java/lang/invoke/VarHandle" ∧ (parseMethodDescriptor yX5_writeValue.desc).map (fun d => d.parameters.length) = some 2 := by decide +kernel
def S_X5_writeValue (u : gx_S) (v0 : Nat) (v1 : Nat) (v2 : Nat) (post : Int32 → gx_S → Prop) : Prop := (gx_isO v0 4 ∧ (gx_isO (gx_r u v0 0) 0 ∧ S_X0_size u (gx_r u v0 0) (fun (r4 : Int32) (u3 : gx_S) => (gx_isO v1 0 ∧ S_X0_size u3 v1 (fun (r7 : Int32) (u6 : gx_S) => (S_X5_valueOf u6 (gx_r u v0 0) r4 v1 (0 : Int32) r7 (fun (r9 : Int32) (u8 : gx_S) => ((¬ r9 = (-2 : Int32) → (gx_isO v2 0 ∧ S_X0_clear u8 v2 (fun (u11 : gx_S) => (gx_isO (gx_r u11 v0 0) 0 ∧ S_X0_find u11 (gx_r u11 v0 0) (59 : Int32) r9 (fun (r14 : Int32) (u13 : gx_S) => (S_X0_addPart u13 v2 (gx_r u11 v0 0) r9 r14 (fun (u15 : gx_S) => (S_X0_size u15 v2 (fun (r17 : Int32) (u16 : gx_S) => post r17 u16))))))))) ∧ (r9 = (-2 : Int32) → post (-2 : Int32) u8)))))))))
set_option maxHeartbeats 4000000 in
set_option maxRecDepth 100000 in
theorem w_X5_writeValue {E : gx_E} (X : gx_X E cX5_writeValue 4 RX5 (some .int)) (hd : 3 ≤ ex_d E) {post : Int32 → gx_S → Prop} (hQ : ex_Q E = va_Qi post (gx_B (ex_Z E)) (gx_A (ex_Z E))) {u : gx_S} {v0 : Nat} {v1 : Nat} {v2 : Nat} (h : S_X5_writeValue u v0 v1 v2 post) : gx_Wc E 4 0 [(0, .ref (ex_ad E v0)), (1, .ref (ex_ad E v1)), (2, .ref (ex_ad E v2))] [] u := by
  unfold S_X5_writeValue at h
  refine gx_aload_n X (j := 0) dX5_writeValue_0 rfl rfl ?_
  obtain ⟨k1, h⟩ := h
  refine gx_get X k1 rfl iwX5 0 (by decide) mw_65 (v := .ref (ex_ad E (gx_r u v0 0))) rfl dX5_writeValue_1 ?_
  refine gx_aload_n X (j := 0) dX5_writeValue_4 rfl rfl ?_
  refine gx_get X k1 rfl iwX5 0 (by decide) mw_65 (v := .ref (ex_ad E (gx_r u v0 0))) rfl dX5_writeValue_5 ?_
  obtain ⟨k2, h⟩ := h
  refine gx_ki (gx_rV X (c_X0_size h) (Nat.le_trans (by decide) hd) (Nat.le_trans (by decide) (Nat.mul_le_mul_left 40 hd)) k2 rfl mw_269 mw_128 mw_129 mw_2 mw_130 hyX0_size (As := []) (rest := [.ref (ex_ad E (gx_r u v0 0))]) rfl rfl (Nat.le_of_ble_eq_true rfl) dX5_writeValue_8) (fun r4 u3 h => ?_)
  refine gx_aload_n X (j := 1) dX5_writeValue_11 rfl rfl ?_
  refine gx_iconst X (v := 0) dX5_writeValue_12 (by decide) ?_
  refine gx_aload_n X (j := 1) dX5_writeValue_13 rfl rfl ?_
  obtain ⟨k5, h⟩ := h
  refine gx_ki (gx_rV X (c_X0_size h) (Nat.le_trans (by decide) hd) (Nat.le_trans (by decide) (Nat.mul_le_mul_left 40 hd)) k5 rfl mw_269 mw_128 mw_129 mw_2 mw_130 hyX0_size (As := []) (rest := [.int (0 : Int32), .ref (ex_ad E v1), .int r4, .ref (ex_ad E (gx_r u v0 0))]) rfl rfl (Nat.le_of_ble_eq_true rfl) dX5_writeValue_14) (fun r7 u6 h => ?_)
  refine gx_ki (gx_rS X (c_X5_valueOf h) (Nat.le_trans (by decide) hd) (Nat.le_trans (by decide) (Nat.mul_le_mul_left 40 hd)) mw_279 mw_280 mw_4 mw_281 hyX5_valueOf (As := [.ref (ex_ad E (gx_r u v0 0)), .int r4, .ref (ex_ad E v1), .int (0 : Int32), .int r7]) (rest := []) rfl rfl (Nat.le_of_ble_eq_true rfl) dX5_writeValue_17) (fun r9 u8 h => ?_)
  refine gx_istore_n X (lv' := [(3, .int r9), (0, .ref (ex_ad E v0)), (1, .ref (ex_ad E v1)), (2, .ref (ex_ad E v2))]) dX5_writeValue_20 rfl (by decide) rfl ?_
  refine gx_iload_n X (j := 0) dX5_writeValue_21 rfl rfl ?_
  refine gx_bipush X (v := -2) dX5_writeValue_22 (by decide) ?_
  refine gx_icmp_ne X (tgt := 30) dX5_writeValue_24 (by decide) (fun c18 => ?_) (fun c18 => ?_)
  · replace h := h.1 c18
    refine gx_aload_n X (j := 3) dX5_writeValue_30 rfl rfl ?_
    obtain ⟨k10, h⟩ := h
    refine gx_kv (gx_rV X (c_X0_clear h) (Nat.le_trans (by decide) hd) (Nat.le_trans (by decide) (Nat.mul_le_mul_left 40 hd)) k10 rfl mw_298 mw_192 mw_193 mw_2 mw_194 hyX0_clear (As := []) (rest := []) rfl rfl (Nat.le_of_ble_eq_true rfl) dX5_writeValue_31) (fun u11 h => ?_)
    refine gx_aload_n X (j := 3) dX5_writeValue_34 rfl rfl ?_
    refine gx_aload_n X (j := 1) dX5_writeValue_35 rfl rfl ?_
    refine gx_get X k1 rfl iwX5 0 (by decide) mw_65 (v := .ref (ex_ad E (gx_r u11 v0 0))) rfl dX5_writeValue_36 ?_
    refine gx_iload_n X (j := 0) dX5_writeValue_39 rfl rfl ?_
    refine gx_aload_n X (j := 1) dX5_writeValue_40 rfl rfl ?_
    refine gx_get X k1 rfl iwX5 0 (by decide) mw_65 (v := .ref (ex_ad E (gx_r u11 v0 0))) rfl dX5_writeValue_41 ?_
    refine gx_bipush X (v := 59) dX5_writeValue_44 (by decide) ?_
    refine gx_iload_n X (j := 0) dX5_writeValue_46 rfl rfl ?_
    obtain ⟨k12, h⟩ := h
    refine gx_ki (gx_rV X (c_X0_find h) (Nat.le_trans (by decide) hd) (Nat.le_trans (by decide) (Nat.mul_le_mul_left 40 hd)) k12 rfl mw_285 mw_286 mw_287 mw_2 mw_288 hyX0_find (As := [.int (59 : Int32), .int r9]) (rest := [.int r9, .ref (ex_ad E (gx_r u11 v0 0)), .ref (ex_ad E v2)]) rfl rfl (Nat.le_of_ble_eq_true rfl) dX5_writeValue_47) (fun r14 u13 h => ?_)
    refine gx_kv (gx_rV X (c_X0_addPart h) (Nat.le_trans (by decide) hd) (Nat.le_trans (by decide) (Nat.mul_le_mul_left 40 hd)) k10 rfl mw_299 mw_196 mw_197 mw_2 mw_198 hyX0_addPart (As := [.ref (ex_ad E (gx_r u11 v0 0)), .int r9, .int r14]) (rest := []) rfl rfl (Nat.le_of_ble_eq_true rfl) dX5_writeValue_50) (fun u15 h => ?_)
    refine gx_aload_n X (j := 3) dX5_writeValue_53 rfl rfl ?_
    refine gx_ki (gx_rV X (c_X0_size h) (Nat.le_trans (by decide) hd) (Nat.le_trans (by decide) (Nat.mul_le_mul_left 40 hd)) k10 rfl mw_269 mw_128 mw_129 mw_2 mw_130 hyX0_size (As := []) (rest := []) rfl rfl (Nat.le_of_ble_eq_true rfl) dX5_writeValue_54) (fun r17 u16 h => ?_)
    exact gx_iret X hQ h dX5_writeValue_57
  · replace h := h.2 c18
    refine gx_bipush X (v := -2) dX5_writeValue_27 (by decide) ?_
    exact gx_iret X hQ h dX5_writeValue_29
theorem c_X5_writeValue {l : Launch} {Z : gx_Z} {u : gx_S} {v0 : Nat} {v1 : Nat} {v2 : Nat} {post : Int32 → gx_S → Prop} (h : S_X5_writeValue u v0 v1 v2 post) : Met l yX5_writeValue (Cond.code yX5_writeValue cX5_writeValue 4 (some .int) :: gx_TB) (gx_rm 3) (gx_Pre Z u [.ref (Z.2.1 v0), .ref (Z.2.1 v1), .ref (Z.2.1 v2)]) (va_Qi post (gx_B Z) (gx_A Z)) 0 0 (gx_A Z) := by
  refine gx_met (by decide +kernel) (Nat.le_of_ble_eq_true rfl) ?_
  intro E X hZ hQ hD hL
  subst hZ
  exact w_X5_writeValue X (Nat.le_of_eq hD.symm) hQ h
/-- bytes without white and newlines and without a ; at the end -/
def bareT (T : List Nat) : List Nat := if 0 < (T.filter bare).length ∧ ch (T.filter bare) ((T.filter bare).length - 1) = 59 then (T.filter bare).take ((T.filter bare).length - 1) else T.filter bare
theorem neg1 : nI 0 - (1 : Int32) < 0 := by decide
theorem tg_end {u : gx_S} {B G : List Nat} {post : Int32 → gx_S → Prop} (hf : cfix u) (hB : byL u 1 B) (hG : byL u 6 G) (h0 : ct B = 0 → post (-1) u) (h1 : ct B ≠ 0 → byU u 6 B (post (nI (ct B)))) : S_X5_countTags u 1 (fun (r8 : Int32) (u7 : gx_S) => ((¬ r8 = 0 → (gx_isO 5 4 ∧ (gx_isO (gx_r u7 5 0) 0 ∧ S_X0_become u7 (gx_r u7 5 0) 1 (fun (u11 : gx_S) => post r8 u11)))) ∧ (r8 = 0 → post (-1 : Int32) u7))) := by
  have h40 := ct_le B
  refine ⟨B, hB, ⟨fun z => ⟨isO_x 5 4 (by decide), ?_⟩, fun z => h0 ((nI_eq (b := 0) (by omega) (by omega)).mp z)⟩⟩
  rw [show gx_r u 5 0 = 6 from hf 5 0 (by decide)]
  exact ⟨hG.1, i_X0_become hG hB (by decide) (by rw [hf 1 0 (by decide), hf 6 0 (by decide)]; decide) (h1 (fun e => z (by rw [e]; rfl)))⟩
theorem i_X5_read {u : gx_S} {T G : List Nat} {post : Int32 → gx_S → Prop} (hf : cfix u) (hT : byL u 1 T) (hG : byL u 6 G) (h : byU u 1 (bareT T) (fun u1 => (ct (bareT T) = 0 → post (-1) u1) ∧ (ct (bareT T) ≠ 0 → byU u1 6 (bareT T) (post (nI (ct (bareT T))))))) : S_X5_read u 5 1 post := by
  have hT2 := hT.2.2.2.2.1
  have hfl := List.length_filter_le bare T
  have hr16 : gx_r u 6 0 ≠ gx_r u 1 0 := by rw [hf 1 0 (by decide), hf 6 0 (by decide)]; decide
  refine ⟨hT.1, T, hT, fun f hf2 => ?_⟩
  have hB : byL (byW u 1 f (T.filter bare).length) 1 (T.filter bare) := byL_W hT hf2 (by omega)
  have hG1 : byL (byW u 1 f (T.filter bare).length) 6 G := byL_ne hG (by decide) hr16
  have hf1 : cfix (byW u 1 f (T.filter bare).length) := fun o k h => hf o k h
  refine i_X0_size hB ?_
  have key1 : bareT T = T.filter bare → S_X5_countTags (byW u 1 f (T.filter bare).length) 1 (fun (r8 : Int32) (u7 : gx_S) => ((¬ r8 = 0 → (gx_isO 5 4 ∧ (gx_isO (gx_r u7 5 0) 0 ∧ S_X0_become u7 (gx_r u7 5 0) 1 (fun (u11 : gx_S) => post r8 u11)))) ∧ (r8 = 0 → post (-1 : Int32) u7))) := by
    intro e
    rw [e] at h
    have := h f hf2
    exact tg_end hf1 hB hG1 this.1 this.2
  by_cases h0 : (T.filter bare).length = 0
  · have e : bareT T = T.filter bare := by unfold bareT; rw [if_neg (by omega)]
    rw [h0]
    refine i_X0_at_neg neg1 ⟨fun _ => ?_, fun z => absurd z (by decide)⟩
    have := key1 e
    rwa [h0] at this
  · rw [show (1 : Int32) = nI 1 from rfl, pk_sub (by omega)]
    refine i_X0_at hB (by omega) ⟨fun z => ?_, fun z => i_X0_size hB ?_⟩
    · exact key1 (by unfold bareT; rw [if_neg (fun e => z ((cI_eq (k := 59) (by omega)).mpr e.2))])
    · rw [pk_sub (by omega)]
      have z2 : ch (T.filter bare) ((T.filter bare).length - 1) = 59 := (cI_eq (k := 59) (by omega)).mp z
      have e : bareT T = (T.filter bare).take ((T.filter bare).length - 1) := by unfold bareT; rw [if_pos ⟨by omega, z2⟩]
      rw [e] at h
      refine i_X0_cutTo hB (by omega) (fun g hg => ?_)
      have := h g hg
      rw [byW_W]
      exact tg_end (fun o k h => hf o k h) (byL_W hT hg (by rw [List.length_take]; omega)) (byL_ne hG (by decide) hr16) this.1 this.2
def tvO (G : List Nat) (v : Nat) : List Nat := (G.drop v).take (fnd G 59 v - v)
theorem i_X5_writeValue {u : gx_S} {N G O : List Nat} {post : Int32 → gx_S → Prop} (hf : cfix u) (hN : byL u 1 N) (hG : byL u 6 G) (hO : byL u 2 O) (h0 : vo G G.length N 0 N.length = none → post (-2) u) (h1 : ∀ v, vo G G.length N 0 N.length = some v → byU u 2 (tvO G v) (post (nI (tvO G v).length))) : S_X5_writeValue u 5 1 2 post := by
  have hN2 := hN.2.2.2.2.1
  have hG2 := hG.2.2.2.2.1
  have hv : ∀ v, vo G G.length N 0 N.length = some v → v < 2 ^ 27 := fun v e => by have := voF_lt 40 0 e; omega
  unfold S_X5_writeValue
  rw [show gx_r u 5 0 = 6 from hf 5 0 (by decide)]
  refine ⟨isO_x 5 4 (by decide), hG.1, i_X0_size hG ⟨hN.1, i_X0_size hN ⟨G, N, G.length, 0, N.length, hG, hN, by omega, by omega, by omega, rfl, nI_0.symm, rfl, ⟨fun z => ⟨hO.1, ?_⟩, fun z => h0 ((oI_none (fun v e => by have := hv v e; omega)).mp z)⟩⟩⟩⟩
  cases hvo : vo G G.length N 0 N.length with
  | none => rw [hvo] at z; exact absurd rfl z
  | some v =>
    have hv2 := hv v hvo
    have hfl := fnd_le G 59 v
    have hr : gx_r u 6 0 ≠ gx_r u 2 0 := by rw [hf 2 0 (by decide), hf 6 0 (by decide)]; decide
    refine i_X0_clear hO (fun f hf2 => ?_)
    rw [byW_r, show gx_r u 5 0 = 6 from hf 5 0 (by decide)]
    have hG1 : byL (byW u 2 f ([] : List Nat).length) 6 G := byL_ne hG (by decide) hr
    refine ⟨hG1.1, G, 59, v, hG1, by omega, rfl, by omega, rfl, [], G, v, fnd G 59 v, byL_W hO hf2 (by simp), hG1, by decide, hr, rfl, rfl, by omega, hfl, by simp; omega, byU_W (fun g hg => ?_)⟩
    rw [List.nil_append] at hg ⊢
    have hlt : (tvO G v).length ≤ 2000 := by unfold tvO; rw [List.length_take, List.length_drop]; omega
    exact i_X0_size (byL_W hO hg hlt) (h1 v hvo g hg)
end
section
-- PlainSeal$SixBits.lettersFor(I)I
theorem dX4_lettersFor_0 : decode cX4_lettersFor 0 = .ok (.iload_n 0, 1) := by decide +kernel
theorem dX4_lettersFor_1 : decode cX4_lettersFor 1 = .ok (.bipush 8, 2) := by decide +kernel
theorem dX4_lettersFor_3 : decode cX4_lettersFor 3 = .ok (.imul, 1) := by decide +kernel
theorem dX4_lettersFor_4 : decode cX4_lettersFor 4 = .ok (.iconst 5, 1) := by decide +kernel
theorem dX4_lettersFor_5 : decode cX4_lettersFor 5 = .ok (.iadd, 1) := by decide +kernel
theorem dX4_lettersFor_6 : decode cX4_lettersFor 6 = .ok (.bipush 6, 2) := by decide +kernel
theorem dX4_lettersFor_8 : decode cX4_lettersFor 8 = .ok (.idiv, 1) := by decide +kernel
theorem dX4_lettersFor_9 : decode cX4_lettersFor 9 = .ok (.ireturn, 1) := by decide +kernel
theorem hyX4_lettersFor : yX4_lettersFor.cls ≠ "java/lang/invoke/MethodHandle" ∧ yX4_lettersFor.cls ≠ "java/lang/invoke/VarHandle" ∧ (parseMethodDescriptor yX4_lettersFor.desc).map (fun d => d.parameters.length) = some 1 := by decide +kernel
def S_X4_lettersFor (u : gx_S) (v0 : Int32) (post : Int32 → gx_S → Prop) : Prop := post (((v0 * (8 : Int32)) + (5 : Int32)) / (6 : Int32)) u
set_option maxHeartbeats 4000000 in
set_option maxRecDepth 100000 in
theorem w_X4_lettersFor {E : gx_E} (X : gx_X E cX4_lettersFor 1 RX4 (some .int)) (hd : 0 ≤ ex_d E) {post : Int32 → gx_S → Prop} (hQ : ex_Q E = va_Qi post (gx_B (ex_Z E)) (gx_A (ex_Z E))) {u : gx_S} {v0 : Int32} (h : S_X4_lettersFor u v0 post) : gx_Wc E 1 0 [(0, .int v0)] [] u := by
  unfold S_X4_lettersFor at h
  refine gx_iload_n X (j := 0) dX4_lettersFor_0 rfl rfl ?_
  refine gx_bipush X (v := 8) dX4_lettersFor_1 (by decide) ?_
  refine gx_imul X dX4_lettersFor_3 ?_
  refine gx_iconst X (v := 5) dX4_lettersFor_4 (by decide) ?_
  refine gx_iadd X dX4_lettersFor_5 ?_
  refine gx_bipush X (v := 6) dX4_lettersFor_6 (by decide) ?_
  refine gx_idiv X dX4_lettersFor_8 (by decide) ?_
  exact gx_iret X hQ h dX4_lettersFor_9
theorem c_X4_lettersFor {l : Launch} {Z : gx_Z} {u : gx_S} {v0 : Int32} {post : Int32 → gx_S → Prop} (h : S_X4_lettersFor u v0 post) : Met l yX4_lettersFor (Cond.code yX4_lettersFor cX4_lettersFor 1 (some .int) :: gx_TB) (gx_rm 0) (gx_Pre Z u [.int v0]) (va_Qi post (gx_B Z) (gx_A Z)) 0 0 (gx_A Z) := by
  refine gx_met (by decide +kernel) (Nat.le_of_ble_eq_true rfl) ?_
  intro E X hZ hQ hD hL
  subst hZ
  exact w_X4_lettersFor X (Nat.le_of_eq hD.symm) hQ h
-- PlainSeal$SixBits.bitsOver(I)I
theorem dX4_bitsOver_0 : decode cX4_bitsOver 0 = .ok (.iconst 1, 1) := by decide +kernel
theorem dX4_bitsOver_1 : decode cX4_bitsOver 1 = .ok (.iload_n 0, 1) := by decide +kernel
theorem dX4_bitsOver_2 : decode cX4_bitsOver 2 = .ok (.invokestatic 9, 3) := by decide +kernel
theorem dX4_bitsOver_5 : decode cX4_bitsOver 5 = .ok (.bipush 6, 2) := by decide +kernel
theorem dX4_bitsOver_7 : decode cX4_bitsOver 7 = .ok (.imul, 1) := by decide +kernel
theorem dX4_bitsOver_8 : decode cX4_bitsOver 8 = .ok (.iload_n 0, 1) := by decide +kernel
theorem dX4_bitsOver_9 : decode cX4_bitsOver 9 = .ok (.bipush 8, 2) := by decide +kernel
theorem dX4_bitsOver_11 : decode cX4_bitsOver 11 = .ok (.imul, 1) := by decide +kernel
theorem dX4_bitsOver_12 : decode cX4_bitsOver 12 = .ok (.isub, 1) := by decide +kernel
theorem dX4_bitsOver_13 : decode cX4_bitsOver 13 = .ok (.ishl, 1) := by decide +kernel
theorem dX4_bitsOver_14 : decode cX4_bitsOver 14 = .ok (.iconst 1, 1) := by decide +kernel
theorem dX4_bitsOver_15 : decode cX4_bitsOver 15 = .ok (.isub, 1) := by decide +kernel
theorem dX4_bitsOver_16 : decode cX4_bitsOver 16 = .ok (.ireturn, 1) := by decide +kernel
theorem hyX4_bitsOver : yX4_bitsOver.cls ≠ "java/lang/invoke/MethodHandle" ∧ yX4_bitsOver.cls ≠ "java/lang/invoke/VarHandle" ∧ (parseMethodDescriptor yX4_bitsOver.desc).map (fun d => d.parameters.length) = some 1 := by decide +kernel
def S_X4_bitsOver (u : gx_S) (v0 : Int32) (post : Int32 → gx_S → Prop) : Prop := (S_X4_lettersFor u v0 (fun (r2 : Int32) (u1 : gx_S) => post (((1 : Int32) <<< (((r2 * (6 : Int32)) - (v0 * (8 : Int32))) &&& 31)) - (1 : Int32)) u1))
set_option maxHeartbeats 4000000 in
set_option maxRecDepth 100000 in
theorem w_X4_bitsOver {E : gx_E} (X : gx_X E cX4_bitsOver 1 RX4 (some .int)) (hd : 1 ≤ ex_d E) {post : Int32 → gx_S → Prop} (hQ : ex_Q E = va_Qi post (gx_B (ex_Z E)) (gx_A (ex_Z E))) {u : gx_S} {v0 : Int32} (h : S_X4_bitsOver u v0 post) : gx_Wc E 1 0 [(0, .int v0)] [] u := by
  unfold S_X4_bitsOver at h
  refine gx_iconst X (v := 1) dX4_bitsOver_0 (by decide) ?_
  refine gx_iload_n X (j := 0) dX4_bitsOver_1 rfl rfl ?_
  refine gx_ki (gx_rS X (c_X4_lettersFor h) (Nat.le_trans (by decide) hd) (Nat.le_trans (by decide) (Nat.mul_le_mul_left 40 hd)) mw_307 mw_308 mw_13 mw_309 hyX4_lettersFor (As := [.int v0]) (rest := [.int (1 : Int32)]) rfl rfl (Nat.le_of_ble_eq_true rfl) dX4_bitsOver_2) (fun r2 u1 h => ?_)
  refine gx_bipush X (v := 6) dX4_bitsOver_5 (by decide) ?_
  refine gx_imul X dX4_bitsOver_7 ?_
  refine gx_iload_n X (j := 0) dX4_bitsOver_8 rfl rfl ?_
  refine gx_bipush X (v := 8) dX4_bitsOver_9 (by decide) ?_
  refine gx_imul X dX4_bitsOver_11 ?_
  refine gx_isub X dX4_bitsOver_12 ?_
  refine gx_ishl X dX4_bitsOver_13 ?_
  refine gx_iconst X (v := 1) dX4_bitsOver_14 (by decide) ?_
  refine gx_isub X dX4_bitsOver_15 ?_
  exact gx_iret X hQ h dX4_bitsOver_16
theorem c_X4_bitsOver {l : Launch} {Z : gx_Z} {u : gx_S} {v0 : Int32} {post : Int32 → gx_S → Prop} (h : S_X4_bitsOver u v0 post) : Met l yX4_bitsOver (Cond.code yX4_bitsOver cX4_bitsOver 1 (some .int) :: gx_TB) (gx_rm 1) (gx_Pre Z u [.int v0]) (va_Qi post (gx_B Z) (gx_A Z)) 0 0 (gx_A Z) := by
  refine gx_met (by decide +kernel) (Nat.le_of_ble_eq_true rfl) ?_
  intro E X hZ hQ hD hL
  subst hZ
  exact w_X4_bitsOver X (Nat.le_of_eq hD.symm) hQ h
-- PlainSeal$SixBits.sixBits(I)I
theorem dX4_sixBits_0 : decode cX4_sixBits 0 = .ok (.iload_n 0, 1) := by decide +kernel
theorem dX4_sixBits_1 : decode cX4_sixBits 1 = .ok (.invokestatic 30, 3) := by decide +kernel
theorem dX4_sixBits_4 : decode cX4_sixBits 4 = .ok (.ifCond .eq 8, 3) := by decide +kernel
theorem dX4_sixBits_7 : decode cX4_sixBits 7 = .ok (.iload_n 0, 1) := by decide +kernel
theorem dX4_sixBits_8 : decode cX4_sixBits 8 = .ok (.bipush 65, 2) := by decide +kernel
theorem dX4_sixBits_10 : decode cX4_sixBits 10 = .ok (.isub, 1) := by decide +kernel
theorem dX4_sixBits_11 : decode cX4_sixBits 11 = .ok (.ireturn, 1) := by decide +kernel
theorem dX4_sixBits_12 : decode cX4_sixBits 12 = .ok (.iload_n 0, 1) := by decide +kernel
theorem dX4_sixBits_13 : decode cX4_sixBits 13 = .ok (.invokestatic 34, 3) := by decide +kernel
theorem dX4_sixBits_16 : decode cX4_sixBits 16 = .ok (.ifCond .eq 11, 3) := by decide +kernel
theorem dX4_sixBits_19 : decode cX4_sixBits 19 = .ok (.iload_n 0, 1) := by decide +kernel
theorem dX4_sixBits_20 : decode cX4_sixBits 20 = .ok (.bipush 97, 2) := by decide +kernel
theorem dX4_sixBits_22 : decode cX4_sixBits 22 = .ok (.isub, 1) := by decide +kernel
theorem dX4_sixBits_23 : decode cX4_sixBits 23 = .ok (.bipush 26, 2) := by decide +kernel
theorem dX4_sixBits_25 : decode cX4_sixBits 25 = .ok (.iadd, 1) := by decide +kernel
theorem dX4_sixBits_26 : decode cX4_sixBits 26 = .ok (.ireturn, 1) := by decide +kernel
theorem dX4_sixBits_27 : decode cX4_sixBits 27 = .ok (.iload_n 0, 1) := by decide +kernel
theorem dX4_sixBits_28 : decode cX4_sixBits 28 = .ok (.invokestatic 37, 3) := by decide +kernel
theorem dX4_sixBits_31 : decode cX4_sixBits 31 = .ok (.ifCond .eq 11, 3) := by decide +kernel
theorem dX4_sixBits_34 : decode cX4_sixBits 34 = .ok (.iload_n 0, 1) := by decide +kernel
theorem dX4_sixBits_35 : decode cX4_sixBits 35 = .ok (.bipush 48, 2) := by decide +kernel
theorem dX4_sixBits_37 : decode cX4_sixBits 37 = .ok (.isub, 1) := by decide +kernel
theorem dX4_sixBits_38 : decode cX4_sixBits 38 = .ok (.bipush 52, 2) := by decide +kernel
theorem dX4_sixBits_40 : decode cX4_sixBits 40 = .ok (.iadd, 1) := by decide +kernel
theorem dX4_sixBits_41 : decode cX4_sixBits 41 = .ok (.ireturn, 1) := by decide +kernel
theorem dX4_sixBits_42 : decode cX4_sixBits 42 = .ok (.iload_n 0, 1) := by decide +kernel
theorem dX4_sixBits_43 : decode cX4_sixBits 43 = .ok (.bipush 43, 2) := by decide +kernel
theorem dX4_sixBits_45 : decode cX4_sixBits 45 = .ok (.if_icmp .ne 6, 3) := by decide +kernel
theorem dX4_sixBits_48 : decode cX4_sixBits 48 = .ok (.bipush 62, 2) := by decide +kernel
theorem dX4_sixBits_50 : decode cX4_sixBits 50 = .ok (.ireturn, 1) := by decide +kernel
theorem dX4_sixBits_51 : decode cX4_sixBits 51 = .ok (.iload_n 0, 1) := by decide +kernel
theorem dX4_sixBits_52 : decode cX4_sixBits 52 = .ok (.bipush 47, 2) := by decide +kernel
theorem dX4_sixBits_54 : decode cX4_sixBits 54 = .ok (.if_icmp .ne 8, 3) := by decide +kernel
theorem dX4_sixBits_57 : decode cX4_sixBits 57 = .ok (.bipush 63, 2) := by decide +kernel
theorem dX4_sixBits_59 : decode cX4_sixBits 59 = .ok (.goto 5, 3) := by decide +kernel
theorem dX4_sixBits_62 : decode cX4_sixBits 62 = .ok (.bipush (-2), 2) := by decide +kernel
theorem dX4_sixBits_64 : decode cX4_sixBits 64 = .ok (.ireturn, 1) := by decide +kernel
theorem hyX4_sixBits : yX4_sixBits.cls ≠ "java/lang/invoke/MethodHandle" ∧ yX4_sixBits.cls ≠ "java/lang/invoke/VarHandle" ∧ (parseMethodDescriptor yX4_sixBits.desc).map (fun d => d.parameters.length) = some 1 := by decide +kernel
def S_X4_sixBits (u : gx_S) (v0 : Int32) (post : Int32 → gx_S → Prop) : Prop := (S_X6_isGreatLetter u v0 (fun (r2 : Int32) (u1 : gx_S) => ((r2 = 0 → (S_X6_isSmallLetter u1 v0 (fun (r4 : Int32) (u3 : gx_S) => ((r4 = 0 → (S_X6_isDigit u3 v0 (fun (r6 : Int32) (u5 : gx_S) => ((r6 = 0 → ((¬ v0 = (43 : Int32) → ((¬ v0 = (47 : Int32) → post (-2 : Int32) u5) ∧ (v0 = (47 : Int32) → post (63 : Int32) u5))) ∧ (v0 = (43 : Int32) → post (62 : Int32) u5))) ∧ (¬ r6 = 0 → post ((v0 - (48 : Int32)) + (52 : Int32)) u5))))) ∧ (¬ r4 = 0 → post ((v0 - (97 : Int32)) + (26 : Int32)) u3))))) ∧ (¬ r2 = 0 → post (v0 - (65 : Int32)) u1))))
set_option maxHeartbeats 4000000 in
set_option maxRecDepth 100000 in
theorem w_X4_sixBits {E : gx_E} (X : gx_X E cX4_sixBits 1 RX4 (some .int)) (hd : 1 ≤ ex_d E) {post : Int32 → gx_S → Prop} (hQ : ex_Q E = va_Qi post (gx_B (ex_Z E)) (gx_A (ex_Z E))) {u : gx_S} {v0 : Int32} (h : S_X4_sixBits u v0 post) : gx_Wc E 1 0 [(0, .int v0)] [] u := by
  unfold S_X4_sixBits at h
  refine gx_iload_n X (j := 0) dX4_sixBits_0 rfl rfl ?_
  refine gx_ki (gx_rSN X (c_X6_isGreatLetter h) (Nat.le_trans (by decide) hd) (Nat.le_trans (by decide) (Nat.mul_le_mul_left 40 hd)) mn_7 mw_176 mw_1 mw_177 hyX6_isGreatLetter (As := [.int v0]) (rest := []) rfl rfl (Nat.le_of_ble_eq_true rfl) dX4_sixBits_1) (fun r2 u1 h => ?_)
  refine gx_if_eq X (tgt := 12) dX4_sixBits_4 (by decide) (fun c11 => ?_) (fun c11 => ?_)
  · replace h := h.1 c11
    refine gx_iload_n X (j := 0) dX4_sixBits_12 rfl rfl ?_
    refine gx_ki (gx_rSN X (c_X6_isSmallLetter h) (Nat.le_trans (by decide) hd) (Nat.le_trans (by decide) (Nat.mul_le_mul_left 40 hd)) mn_8 mw_173 mw_1 mw_174 hyX6_isSmallLetter (As := [.int v0]) (rest := []) rfl rfl (Nat.le_of_ble_eq_true rfl) dX4_sixBits_13) (fun r4 u3 h => ?_)
    refine gx_if_eq X (tgt := 27) dX4_sixBits_16 (by decide) (fun c10 => ?_) (fun c10 => ?_)
    · replace h := h.1 c10
      refine gx_iload_n X (j := 0) dX4_sixBits_27 rfl rfl ?_
      refine gx_ki (gx_rSN X (c_X6_isDigit h) (Nat.le_trans (by decide) hd) (Nat.le_trans (by decide) (Nat.mul_le_mul_left 40 hd)) mn_9 mw_179 mw_1 mw_180 hyX6_isDigit (As := [.int v0]) (rest := []) rfl rfl (Nat.le_of_ble_eq_true rfl) dX4_sixBits_28) (fun r6 u5 h => ?_)
      refine gx_if_eq X (tgt := 42) dX4_sixBits_31 (by decide) (fun c9 => ?_) (fun c9 => ?_)
      · replace h := h.1 c9
        refine gx_iload_n X (j := 0) dX4_sixBits_42 rfl rfl ?_
        refine gx_bipush X (v := 43) dX4_sixBits_43 (by decide) ?_
        refine gx_icmp_ne X (tgt := 51) dX4_sixBits_45 (by decide) (fun c8 => ?_) (fun c8 => ?_)
        · replace h := h.1 c8
          refine gx_iload_n X (j := 0) dX4_sixBits_51 rfl rfl ?_
          refine gx_bipush X (v := 47) dX4_sixBits_52 (by decide) ?_
          refine gx_icmp_ne X (tgt := 62) dX4_sixBits_54 (by decide) (fun c7 => ?_) (fun c7 => ?_)
          · replace h := h.1 c7
            refine gx_bipush X (v := -2) dX4_sixBits_62 (by decide) ?_
            exact gx_iret X hQ h dX4_sixBits_64
          · replace h := h.2 c7
            refine gx_bipush X (v := 63) dX4_sixBits_57 (by decide) ?_
            refine gx_goto X (tgt := 64) dX4_sixBits_59 (by decide) ?_
            exact gx_iret X hQ h dX4_sixBits_64
        · replace h := h.2 c8
          refine gx_bipush X (v := 62) dX4_sixBits_48 (by decide) ?_
          exact gx_iret X hQ h dX4_sixBits_50
      · replace h := h.2 c9
        refine gx_iload_n X (j := 0) dX4_sixBits_34 rfl rfl ?_
        refine gx_bipush X (v := 48) dX4_sixBits_35 (by decide) ?_
        refine gx_isub X dX4_sixBits_37 ?_
        refine gx_bipush X (v := 52) dX4_sixBits_38 (by decide) ?_
        refine gx_iadd X dX4_sixBits_40 ?_
        exact gx_iret X hQ h dX4_sixBits_41
    · replace h := h.2 c10
      refine gx_iload_n X (j := 0) dX4_sixBits_19 rfl rfl ?_
      refine gx_bipush X (v := 97) dX4_sixBits_20 (by decide) ?_
      refine gx_isub X dX4_sixBits_22 ?_
      refine gx_bipush X (v := 26) dX4_sixBits_23 (by decide) ?_
      refine gx_iadd X dX4_sixBits_25 ?_
      exact gx_iret X hQ h dX4_sixBits_26
  · replace h := h.2 c11
    refine gx_iload_n X (j := 0) dX4_sixBits_7 rfl rfl ?_
    refine gx_bipush X (v := 65) dX4_sixBits_8 (by decide) ?_
    refine gx_isub X dX4_sixBits_10 ?_
    exact gx_iret X hQ h dX4_sixBits_11
theorem c_X4_sixBits {l : Launch} {Z : gx_Z} {u : gx_S} {v0 : Int32} {post : Int32 → gx_S → Prop} (h : S_X4_sixBits u v0 post) : Met l yX4_sixBits (Cond.code yX4_sixBits cX4_sixBits 1 (some .int) :: gx_TB) (gx_rm 1) (gx_Pre Z u [.int v0]) (va_Qi post (gx_B Z) (gx_A Z)) 0 0 (gx_A Z) := by
  refine gx_met (by decide +kernel) (Nat.le_of_ble_eq_true rfl) ?_
  intro E X hZ hQ hD hL
  subst hZ
  exact w_X4_sixBits X (Nat.le_of_eq hD.symm) hQ h
-- PlainSeal$SixBits.areOf(ILPlainSeal$Bytes;)Z
theorem dX4_areOf_0 : decode cX4_areOf 0 = .ok (.iload_n 0, 1) := by decide +kernel
theorem dX4_areOf_1 : decode cX4_areOf 1 = .ok (.invokestatic 9, 3) := by decide +kernel
theorem dX4_areOf_4 : decode cX4_areOf 4 = .ok (.istore_n 2, 1) := by decide +kernel
theorem dX4_areOf_5 : decode cX4_areOf 5 = .ok (.iload_n 0, 1) := by decide +kernel
theorem dX4_areOf_6 : decode cX4_areOf 6 = .ok (.iconst 2, 1) := by decide +kernel
theorem dX4_areOf_7 : decode cX4_areOf 7 = .ok (.iadd, 1) := by decide +kernel
theorem dX4_areOf_8 : decode cX4_areOf 8 = .ok (.iconst 3, 1) := by decide +kernel
theorem dX4_areOf_9 : decode cX4_areOf 9 = .ok (.idiv, 1) := by decide +kernel
theorem dX4_areOf_10 : decode cX4_areOf 10 = .ok (.iconst 4, 1) := by decide +kernel
theorem dX4_areOf_11 : decode cX4_areOf 11 = .ok (.imul, 1) := by decide +kernel
theorem dX4_areOf_12 : decode cX4_areOf 12 = .ok (.istore_n 3, 1) := by decide +kernel
theorem dX4_areOf_13 : decode cX4_areOf 13 = .ok (.aload_n 1, 1) := by decide +kernel
theorem dX4_areOf_14 : decode cX4_areOf 14 = .ok (.invokevirtual 15, 3) := by decide +kernel
theorem dX4_areOf_17 : decode cX4_areOf 17 = .ok (.iload_n 3, 1) := by decide +kernel
theorem dX4_areOf_18 : decode cX4_areOf 18 = .ok (.if_icmp .eq 5, 3) := by decide +kernel
theorem dX4_areOf_21 : decode cX4_areOf 21 = .ok (.iconst 0, 1) := by decide +kernel
theorem dX4_areOf_22 : decode cX4_areOf 22 = .ok (.ireturn, 1) := by decide +kernel
theorem dX4_areOf_23 : decode cX4_areOf 23 = .ok (.iconst 0, 1) := by decide +kernel
theorem dX4_areOf_24 : decode cX4_areOf 24 = .ok (.istore 4, 2) := by decide +kernel
theorem dX4_areOf_26 : decode cX4_areOf 26 = .ok (.iload 4, 2) := by decide +kernel
theorem dX4_areOf_28 : decode cX4_areOf 28 = .ok (.iload_n 2, 1) := by decide +kernel
theorem dX4_areOf_29 : decode cX4_areOf 29 = .ok (.if_icmp .ge 25, 3) := by decide +kernel
theorem dX4_areOf_32 : decode cX4_areOf 32 = .ok (.aload_n 1, 1) := by decide +kernel
theorem dX4_areOf_33 : decode cX4_areOf 33 = .ok (.iload 4, 2) := by decide +kernel
theorem dX4_areOf_35 : decode cX4_areOf 35 = .ok (.invokevirtual 21, 3) := by decide +kernel
theorem dX4_areOf_38 : decode cX4_areOf 38 = .ok (.invokestatic 24, 3) := by decide +kernel
theorem dX4_areOf_41 : decode cX4_areOf 41 = .ok (.bipush (-2), 2) := by decide +kernel
theorem dX4_areOf_43 : decode cX4_areOf 43 = .ok (.if_icmp .ne 5, 3) := by decide +kernel
theorem dX4_areOf_46 : decode cX4_areOf 46 = .ok (.iconst 0, 1) := by decide +kernel
theorem dX4_areOf_47 : decode cX4_areOf 47 = .ok (.ireturn, 1) := by decide +kernel
theorem dX4_areOf_48 : decode cX4_areOf 48 = .ok (.iinc 4 1, 3) := by decide +kernel
theorem dX4_areOf_51 : decode cX4_areOf 51 = .ok (.goto (-25), 3) := by decide +kernel
theorem dX4_areOf_54 : decode cX4_areOf 54 = .ok (.iload_n 2, 1) := by decide +kernel
theorem dX4_areOf_55 : decode cX4_areOf 55 = .ok (.istore 4, 2) := by decide +kernel
theorem dX4_areOf_57 : decode cX4_areOf 57 = .ok (.iload 4, 2) := by decide +kernel
theorem dX4_areOf_59 : decode cX4_areOf 59 = .ok (.iload_n 3, 1) := by decide +kernel
theorem dX4_areOf_60 : decode cX4_areOf 60 = .ok (.if_icmp .ge 22, 3) := by decide +kernel
theorem dX4_areOf_63 : decode cX4_areOf 63 = .ok (.aload_n 1, 1) := by decide +kernel
theorem dX4_areOf_64 : decode cX4_areOf 64 = .ok (.iload 4, 2) := by decide +kernel
theorem dX4_areOf_66 : decode cX4_areOf 66 = .ok (.invokevirtual 21, 3) := by decide +kernel
theorem dX4_areOf_69 : decode cX4_areOf 69 = .ok (.bipush 61, 2) := by decide +kernel
theorem dX4_areOf_71 : decode cX4_areOf 71 = .ok (.if_icmp .eq 5, 3) := by decide +kernel
theorem dX4_areOf_74 : decode cX4_areOf 74 = .ok (.iconst 0, 1) := by decide +kernel
theorem dX4_areOf_75 : decode cX4_areOf 75 = .ok (.ireturn, 1) := by decide +kernel
theorem dX4_areOf_76 : decode cX4_areOf 76 = .ok (.iinc 4 1, 3) := by decide +kernel
theorem dX4_areOf_79 : decode cX4_areOf 79 = .ok (.goto (-22), 3) := by decide +kernel
theorem dX4_areOf_82 : decode cX4_areOf 82 = .ok (.iload_n 0, 1) := by decide +kernel
theorem dX4_areOf_83 : decode cX4_areOf 83 = .ok (.ifCond .eq 21, 3) := by decide +kernel
theorem dX4_areOf_86 : decode cX4_areOf 86 = .ok (.aload_n 1, 1) := by decide +kernel
theorem dX4_areOf_87 : decode cX4_areOf 87 = .ok (.iload_n 2, 1) := by decide +kernel
theorem dX4_areOf_88 : decode cX4_areOf 88 = .ok (.iconst 1, 1) := by decide +kernel
theorem dX4_areOf_89 : decode cX4_areOf 89 = .ok (.isub, 1) := by decide +kernel
theorem dX4_areOf_90 : decode cX4_areOf 90 = .ok (.invokevirtual 21, 3) := by decide +kernel
theorem dX4_areOf_93 : decode cX4_areOf 93 = .ok (.invokestatic 24, 3) := by decide +kernel
theorem dX4_areOf_96 : decode cX4_areOf 96 = .ok (.iload_n 0, 1) := by decide +kernel
theorem dX4_areOf_97 : decode cX4_areOf 97 = .ok (.invokestatic 27, 3) := by decide +kernel
theorem dX4_areOf_100 : decode cX4_areOf 100 = .ok (.iand, 1) := by decide +kernel
theorem dX4_areOf_101 : decode cX4_areOf 101 = .ok (.ifCond .ne 7, 3) := by decide +kernel
theorem dX4_areOf_104 : decode cX4_areOf 104 = .ok (.iconst 1, 1) := by decide +kernel
theorem dX4_areOf_105 : decode cX4_areOf 105 = .ok (.goto 4, 3) := by decide +kernel
theorem dX4_areOf_108 : decode cX4_areOf 108 = .ok (.iconst 0, 1) := by decide +kernel
theorem dX4_areOf_109 : decode cX4_areOf 109 = .ok (.ireturn, 1) := by decide +kernel
theorem hyX4_areOf : yX4_areOf.cls ≠ "java/lang/invoke/MethodHandle" ∧ yX4_areOf.cls ≠ "java/lang/invoke/VarHandle" ∧ (parseMethodDescriptor yX4_areOf.desc).map (fun d => d.parameters.length) = some 2 := by decide +kernel
abbrev J_X4_areOf_26 (E : gx_E) (v0 : Int32) (v1 : Nat) (v2 : Int32) (v3 : Int32) (v4 : Int32) (u : gx_S) : Prop := gx_Wc E 5 26 [(0, .int v0), (1, .ref (ex_ad E v1)), (2, .int v2), (3, .int v3), (4, .int v4)] [] u
abbrev J_X4_areOf_57 (E : gx_E) (v0 : Int32) (v1 : Nat) (v2 : Int32) (v3 : Int32) (v4 : Int32) (u : gx_S) : Prop := gx_Wc E 5 57 [(0, .int v0), (1, .ref (ex_ad E v1)), (2, .int v2), (3, .int v3), (4, .int v4)] [] u
set_option maxHeartbeats 4000000 in
set_option maxRecDepth 100000 in
theorem w_X4_areOf_0 {E : gx_E} (X : gx_X E cX4_areOf 5 RX4 (some .boolean)) (hd : 2 ≤ ex_d E) {post : Int32 → gx_S → Prop} (hQ : ex_Q E = va_Qi post (gx_B (ex_Z E)) (gx_A (ex_Z E))) {u : gx_S} {v0 : Int32} {v1 : Nat} (h : (S_X4_lettersFor u v0 (fun (r2 : Int32) (u1 : gx_S) => (∀ x3 : Int32, x3 = (((v0 + (2 : Int32)) / (3 : Int32)) * (4 : Int32)) → (gx_isO v1 0 ∧ S_X0_size u1 v1 (fun (r6 : Int32) (u5 : gx_S) => ((r6 = x3 → J_X4_areOf_26 E v0 v1 r2 x3 (0 : Int32) u5) ∧ (¬ r6 = x3 → post (0 : Int32) u5)))))))) : gx_Wc E 5 0 [(0, .int v0), (1, .ref (ex_ad E v1))] [] u := by
  refine gx_iload_n X (j := 0) dX4_areOf_0 rfl rfl ?_
  refine gx_ki (gx_rS X (c_X4_lettersFor h) (Nat.le_trans (by decide) hd) (Nat.le_trans (by decide) (Nat.mul_le_mul_left 40 hd)) mw_307 mw_308 mw_13 mw_309 hyX4_lettersFor (As := [.int v0]) (rest := []) rfl rfl (Nat.le_of_ble_eq_true rfl) dX4_areOf_1) (fun r2 u1 h => ?_)
  refine gx_istore_n X (lv' := [(2, .int r2), (0, .int v0), (1, .ref (ex_ad E v1))]) dX4_areOf_4 rfl (by decide) rfl ?_
  refine gx_iload_n X (j := 1) dX4_areOf_5 rfl rfl ?_
  refine gx_iconst X (v := 2) dX4_areOf_6 (by decide) ?_
  refine gx_iadd X dX4_areOf_7 ?_
  refine gx_iconst X (v := 3) dX4_areOf_8 (by decide) ?_
  refine gx_idiv X dX4_areOf_9 (by decide) ?_
  refine gx_iconst X (v := 4) dX4_areOf_10 (by decide) ?_
  refine gx_imul X dX4_areOf_11 ?_
  refine gx_nami (fun x3 ex3 => ?_)
  replace h := h x3 ex3
  refine gx_istore_n X (lv' := [(3, .int x3), (2, .int r2), (0, .int v0), (1, .ref (ex_ad E v1))]) dX4_areOf_12 rfl (by decide) rfl ?_
  refine gx_aload_n X (j := 3) dX4_areOf_13 rfl rfl ?_
  obtain ⟨k4, h⟩ := h
  refine gx_ki (gx_rV X (c_X0_size h) (Nat.le_trans (by decide) hd) (Nat.le_trans (by decide) (Nat.mul_le_mul_left 40 hd)) k4 rfl mw_310 mw_128 mw_129 mw_2 mw_130 hyX0_size (As := []) (rest := []) rfl rfl (Nat.le_of_ble_eq_true rfl) dX4_areOf_14) (fun r6 u5 h => ?_)
  refine gx_iload_n X (j := 0) dX4_areOf_17 rfl rfl ?_
  refine gx_icmp_eq X (tgt := 23) dX4_areOf_18 (by decide) (fun c7 => ?_) (fun c7 => ?_)
  · replace h := h.1 c7
    refine gx_iconst X (v := 0) dX4_areOf_23 (by decide) ?_
    refine gx_istore X (lv' := [(4, .int (0 : Int32)), (3, .int x3), (2, .int r2), (0, .int v0), (1, .ref (ex_ad E v1))]) dX4_areOf_24 (by decide) rfl ?_
    exact gx_sub [3, 4, 2, 1, 0] rfl h
  · replace h := h.2 c7
    refine gx_iconst X (v := 0) dX4_areOf_21 (by decide) ?_
    exact gx_zret X hQ rfl h dX4_areOf_22
set_option maxHeartbeats 4000000 in
set_option maxRecDepth 100000 in
theorem w_X4_areOf_26 {E : gx_E} (X : gx_X E cX4_areOf 5 RX4 (some .boolean)) (hd : 2 ≤ ex_d E) {post : Int32 → gx_S → Prop} (hQ : ex_Q E = va_Qi post (gx_B (ex_Z E)) (gx_A (ex_Z E))) {u : gx_S} {v0 : Int32} {v1 : Nat} {v2 : Int32} {v3 : Int32} {v4 : Int32} (h : ((v2 ≤ v4 → J_X4_areOf_57 E v0 v1 v2 v3 v2 u) ∧ (¬ v2 ≤ v4 → (gx_isO v1 0 ∧ S_X0_at u v1 v4 (fun (r3 : Int32) (u2 : gx_S) => (S_X4_sixBits u2 r3 (fun (r5 : Int32) (u4 : gx_S) => ((¬ r5 = (-2 : Int32) → (∀ x6 : Int32, x6 = v4 + 1 → J_X4_areOf_26 E v0 v1 v2 v3 x6 u4)) ∧ (r5 = (-2 : Int32) → post (0 : Int32) u4))))))))) : gx_Wc E 5 26 [(0, .int v0), (1, .ref (ex_ad E v1)), (2, .int v2), (3, .int v3), (4, .int v4)] [] u := by
  refine gx_iload X (j := 4) dX4_areOf_26 rfl ?_
  refine gx_iload_n X (j := 2) dX4_areOf_28 rfl rfl ?_
  refine gx_icmp_ge X (tgt := 54) dX4_areOf_29 (by decide) (fun c8 => ?_) (fun c8 => ?_)
  · replace h := h.1 c8
    refine gx_iload_n X (j := 2) dX4_areOf_54 rfl rfl ?_
    refine gx_istore X (lv' := [(4, .int v2), (0, .int v0), (1, .ref (ex_ad E v1)), (2, .int v2), (3, .int v3)]) dX4_areOf_55 (by decide) rfl ?_
    exact gx_sub [1, 2, 3, 4, 0] rfl h
  · replace h := h.2 c8
    refine gx_aload_n X (j := 1) dX4_areOf_32 rfl rfl ?_
    refine gx_iload X (j := 4) dX4_areOf_33 rfl ?_
    obtain ⟨k1, h⟩ := h
    refine gx_ki (gx_rV X (c_X0_at h) (Nat.le_trans (by decide) hd) (Nat.le_trans (by decide) (Nat.mul_le_mul_left 40 hd)) k1 rfl mw_311 mw_163 mw_164 mw_2 mw_165 hyX0_at (As := [.int v4]) (rest := []) rfl rfl (Nat.le_of_ble_eq_true rfl) dX4_areOf_35) (fun r3 u2 h => ?_)
    refine gx_ki (gx_rS X (c_X4_sixBits h) (Nat.le_trans (by decide) hd) (Nat.le_trans (by decide) (Nat.mul_le_mul_left 40 hd)) mw_312 mw_313 mw_13 mw_314 hyX4_sixBits (As := [.int r3]) (rest := []) rfl rfl (Nat.le_of_ble_eq_true rfl) dX4_areOf_38) (fun r5 u4 h => ?_)
    refine gx_bipush X (v := -2) dX4_areOf_41 (by decide) ?_
    refine gx_icmp_ne X (tgt := 48) dX4_areOf_43 (by decide) (fun c7 => ?_) (fun c7 => ?_)
    · replace h := h.1 c7
      obtain ⟨x6, ex6⟩ : ∃ y : Int32, y = v4 + 1 := ⟨_, rfl⟩
      replace h := h x6 ex6
      refine gx_iinc X (v := x6) (lv' := [(4, .int x6), (0, .int v0), (1, .ref (ex_ad E v1)), (2, .int v2), (3, .int v3)]) dX4_areOf_48 (j := 4) rfl (by rw [ex6]; rfl) (by decide) rfl ?_
      refine gx_goto X (tgt := 26) dX4_areOf_51 (by decide) ?_
      exact gx_sub [1, 2, 3, 4, 0] rfl h
    · replace h := h.2 c7
      refine gx_iconst X (v := 0) dX4_areOf_46 (by decide) ?_
      exact gx_zret X hQ rfl h dX4_areOf_47
set_option maxHeartbeats 4000000 in
set_option maxRecDepth 100000 in
theorem w_X4_areOf_57 {E : gx_E} (X : gx_X E cX4_areOf 5 RX4 (some .boolean)) (hd : 2 ≤ ex_d E) {post : Int32 → gx_S → Prop} (hQ : ex_Q E = va_Qi post (gx_B (ex_Z E)) (gx_A (ex_Z E))) {u : gx_S} {v0 : Int32} {v1 : Nat} {v2 : Int32} {v3 : Int32} {v4 : Int32} (h : ((v3 ≤ v4 → ((v0 = 0 → post (1 : Int32) u) ∧ (¬ v0 = 0 → (gx_isO v1 0 ∧ S_X0_at u v1 (v2 - (1 : Int32)) (fun (r3 : Int32) (u2 : gx_S) => (S_X4_sixBits u2 r3 (fun (r5 : Int32) (u4 : gx_S) => (S_X4_bitsOver u4 v0 (fun (r7 : Int32) (u6 : gx_S) => ((¬ (r5 &&& r7) = 0 → post (0 : Int32) u6) ∧ ((r5 &&& r7) = 0 → post (1 : Int32) u6))))))))))) ∧ (¬ v3 ≤ v4 → (gx_isO v1 0 ∧ S_X0_at u v1 v4 (fun (r12 : Int32) (u11 : gx_S) => ((r12 = (61 : Int32) → (∀ x13 : Int32, x13 = v4 + 1 → J_X4_areOf_57 E v0 v1 v2 v3 x13 u11)) ∧ (¬ r12 = (61 : Int32) → post (0 : Int32) u11))))))) : gx_Wc E 5 57 [(0, .int v0), (1, .ref (ex_ad E v1)), (2, .int v2), (3, .int v3), (4, .int v4)] [] u := by
  refine gx_iload X (j := 4) dX4_areOf_57 rfl ?_
  refine gx_iload_n X (j := 3) dX4_areOf_59 rfl rfl ?_
  refine gx_icmp_ge X (tgt := 82) dX4_areOf_60 (by decide) (fun c15 => ?_) (fun c15 => ?_)
  · replace h := h.1 c15
    refine gx_iload_n X (j := 0) dX4_areOf_82 rfl rfl ?_
    refine gx_if_eq X (tgt := 104) dX4_areOf_83 (by decide) (fun c9 => ?_) (fun c9 => ?_)
    · replace h := h.1 c9
      refine gx_iconst X (v := 1) dX4_areOf_104 (by decide) ?_
      refine gx_goto X (tgt := 109) dX4_areOf_105 (by decide) ?_
      exact gx_zret X hQ rfl h dX4_areOf_109
    · replace h := h.2 c9
      refine gx_aload_n X (j := 1) dX4_areOf_86 rfl rfl ?_
      refine gx_iload_n X (j := 2) dX4_areOf_87 rfl rfl ?_
      refine gx_iconst X (v := 1) dX4_areOf_88 (by decide) ?_
      refine gx_isub X dX4_areOf_89 ?_
      obtain ⟨k1, h⟩ := h
      refine gx_ki (gx_rV X (c_X0_at h) (Nat.le_trans (by decide) hd) (Nat.le_trans (by decide) (Nat.mul_le_mul_left 40 hd)) k1 rfl mw_311 mw_163 mw_164 mw_2 mw_165 hyX0_at (As := [.int (v2 - (1 : Int32))]) (rest := []) rfl rfl (Nat.le_of_ble_eq_true rfl) dX4_areOf_90) (fun r3 u2 h => ?_)
      refine gx_ki (gx_rS X (c_X4_sixBits h) (Nat.le_trans (by decide) hd) (Nat.le_trans (by decide) (Nat.mul_le_mul_left 40 hd)) mw_312 mw_313 mw_13 mw_314 hyX4_sixBits (As := [.int r3]) (rest := []) rfl rfl (Nat.le_of_ble_eq_true rfl) dX4_areOf_93) (fun r5 u4 h => ?_)
      refine gx_iload_n X (j := 0) dX4_areOf_96 rfl rfl ?_
      refine gx_ki (gx_rS X (c_X4_bitsOver h) (Nat.le_trans (by decide) hd) (Nat.le_trans (by decide) (Nat.mul_le_mul_left 40 hd)) mw_318 mw_319 mw_13 mw_320 hyX4_bitsOver (As := [.int v0]) (rest := [.int r5]) rfl rfl (Nat.le_of_ble_eq_true rfl) dX4_areOf_97) (fun r7 u6 h => ?_)
      refine gx_iand X dX4_areOf_100 ?_
      refine gx_if_ne X (tgt := 108) dX4_areOf_101 (by decide) (fun c8 => ?_) (fun c8 => ?_)
      · replace h := h.1 c8
        refine gx_iconst X (v := 0) dX4_areOf_108 (by decide) ?_
        exact gx_zret X hQ rfl h dX4_areOf_109
      · replace h := h.2 c8
        refine gx_iconst X (v := 1) dX4_areOf_104 (by decide) ?_
        refine gx_goto X (tgt := 109) dX4_areOf_105 (by decide) ?_
        exact gx_zret X hQ rfl h dX4_areOf_109
  · replace h := h.2 c15
    refine gx_aload_n X (j := 1) dX4_areOf_63 rfl rfl ?_
    refine gx_iload X (j := 4) dX4_areOf_64 rfl ?_
    obtain ⟨k10, h⟩ := h
    refine gx_ki (gx_rV X (c_X0_at h) (Nat.le_trans (by decide) hd) (Nat.le_trans (by decide) (Nat.mul_le_mul_left 40 hd)) k10 rfl mw_311 mw_163 mw_164 mw_2 mw_165 hyX0_at (As := [.int v4]) (rest := []) rfl rfl (Nat.le_of_ble_eq_true rfl) dX4_areOf_66) (fun r12 u11 h => ?_)
    refine gx_bipush X (v := 61) dX4_areOf_69 (by decide) ?_
    refine gx_icmp_eq X (tgt := 76) dX4_areOf_71 (by decide) (fun c14 => ?_) (fun c14 => ?_)
    · replace h := h.1 c14
      obtain ⟨x13, ex13⟩ : ∃ y : Int32, y = v4 + 1 := ⟨_, rfl⟩
      replace h := h x13 ex13
      refine gx_iinc X (v := x13) (lv' := [(4, .int x13), (0, .int v0), (1, .ref (ex_ad E v1)), (2, .int v2), (3, .int v3)]) dX4_areOf_76 (j := 4) rfl (by rw [ex13]; rfl) (by decide) rfl ?_
      refine gx_goto X (tgt := 57) dX4_areOf_79 (by decide) ?_
      exact gx_sub [1, 2, 3, 4, 0] rfl h
    · replace h := h.2 c14
      refine gx_iconst X (v := 0) dX4_areOf_74 (by decide) ?_
      exact gx_zret X hQ rfl h dX4_areOf_75
-- PlainSeal$SixBits.write(ILPlainSeal$Bytes;LPlainSeal$Bytes;)V
theorem dX4_write_0 : decode cX4_write 0 = .ok (.iconst 0, 1) := by decide +kernel
theorem dX4_write_1 : decode cX4_write 1 = .ok (.istore_n 3, 1) := by decide +kernel
theorem dX4_write_2 : decode cX4_write 2 = .ok (.iconst 0, 1) := by decide +kernel
theorem dX4_write_3 : decode cX4_write 3 = .ok (.istore 4, 2) := by decide +kernel
theorem dX4_write_5 : decode cX4_write 5 = .ok (.aload_n 2, 1) := by decide +kernel
theorem dX4_write_6 : decode cX4_write 6 = .ok (.invokevirtual 40, 3) := by decide +kernel
theorem dX4_write_9 : decode cX4_write 9 = .ok (.iconst 0, 1) := by decide +kernel
theorem dX4_write_10 : decode cX4_write 10 = .ok (.istore 5, 2) := by decide +kernel
theorem dX4_write_12 : decode cX4_write 12 = .ok (.iload 5, 2) := by decide +kernel
theorem dX4_write_14 : decode cX4_write 14 = .ok (.iload_n 0, 1) := by decide +kernel
theorem dX4_write_15 : decode cX4_write 15 = .ok (.invokestatic 9, 3) := by decide +kernel
theorem dX4_write_18 : decode cX4_write 18 = .ok (.if_icmp .ge 45, 3) := by decide +kernel
theorem dX4_write_21 : decode cX4_write 21 = .ok (.iload_n 3, 1) := by decide +kernel
theorem dX4_write_22 : decode cX4_write 22 = .ok (.bipush 6, 2) := by decide +kernel
theorem dX4_write_24 : decode cX4_write 24 = .ok (.ishl, 1) := by decide +kernel
theorem dX4_write_25 : decode cX4_write 25 = .ok (.aload_n 1, 1) := by decide +kernel
theorem dX4_write_26 : decode cX4_write 26 = .ok (.iload 5, 2) := by decide +kernel
theorem dX4_write_28 : decode cX4_write 28 = .ok (.invokevirtual 21, 3) := by decide +kernel
theorem dX4_write_31 : decode cX4_write 31 = .ok (.invokestatic 24, 3) := by decide +kernel
theorem dX4_write_34 : decode cX4_write 34 = .ok (.ior, 1) := by decide +kernel
theorem dX4_write_35 : decode cX4_write 35 = .ok (.istore_n 3, 1) := by decide +kernel
theorem dX4_write_36 : decode cX4_write 36 = .ok (.iinc 4 6, 3) := by decide +kernel
theorem dX4_write_39 : decode cX4_write 39 = .ok (.iload 4, 2) := by decide +kernel
theorem dX4_write_41 : decode cX4_write 41 = .ok (.bipush 8, 2) := by decide +kernel
theorem dX4_write_43 : decode cX4_write 43 = .ok (.if_icmp .lt 14, 3) := by decide +kernel
theorem dX4_write_46 : decode cX4_write 46 = .ok (.iinc 4 (-8), 3) := by decide +kernel
theorem dX4_write_49 : decode cX4_write 49 = .ok (.aload_n 2, 1) := by decide +kernel
theorem dX4_write_50 : decode cX4_write 50 = .ok (.iload_n 3, 1) := by decide +kernel
theorem dX4_write_51 : decode cX4_write 51 = .ok (.iload 4, 2) := by decide +kernel
theorem dX4_write_53 : decode cX4_write 53 = .ok (.iushr, 1) := by decide +kernel
theorem dX4_write_54 : decode cX4_write 54 = .ok (.invokevirtual 43, 3) := by decide +kernel
theorem dX4_write_57 : decode cX4_write 57 = .ok (.iinc 5 1, 3) := by decide +kernel
theorem dX4_write_60 : decode cX4_write 60 = .ok (.goto (-48), 3) := by decide +kernel
theorem dX4_write_63 : decode cX4_write 63 = .ok (.return_, 1) := by decide +kernel
theorem hyX4_write : yX4_write.cls ≠ "java/lang/invoke/MethodHandle" ∧ yX4_write.cls ≠ "java/lang/invoke/VarHandle" ∧ (parseMethodDescriptor yX4_write.desc).map (fun d => d.parameters.length) = some 3 := by decide +kernel
abbrev J_X4_write_12 (E : gx_E) (v0 : Int32) (v1 : Nat) (v2 : Nat) (v3 : Int32) (v4 : Int32) (v5 : Int32) (u : gx_S) : Prop := gx_Wc E 6 12 [(0, .int v0), (1, .ref (ex_ad E v1)), (2, .ref (ex_ad E v2)), (3, .int v3), (4, .int v4), (5, .int v5)] [] u
set_option maxHeartbeats 4000000 in
set_option maxRecDepth 100000 in
theorem w_X4_write_0 {E : gx_E} (X : gx_X E cX4_write 6 RX4 none) (hd : 2 ≤ ex_d E) {post : gx_S → Prop} (hQ : ex_Q E = va_Qv post (gx_B (ex_Z E)) (gx_A (ex_Z E))) {u : gx_S} {v0 : Int32} {v1 : Nat} {v2 : Nat} (h : (gx_isO v2 0 ∧ S_X0_clear u v2 (fun (u2 : gx_S) => J_X4_write_12 E v0 v1 v2 (0 : Int32) (0 : Int32) (0 : Int32) u2))) : gx_Wc E 6 0 [(0, .int v0), (1, .ref (ex_ad E v1)), (2, .ref (ex_ad E v2))] [] u := by
  refine gx_iconst X (v := 0) dX4_write_0 (by decide) ?_
  refine gx_istore_n X (lv' := [(3, .int (0 : Int32)), (0, .int v0), (1, .ref (ex_ad E v1)), (2, .ref (ex_ad E v2))]) dX4_write_1 rfl (by decide) rfl ?_
  refine gx_iconst X (v := 0) dX4_write_2 (by decide) ?_
  refine gx_istore X (lv' := [(4, .int (0 : Int32)), (3, .int (0 : Int32)), (0, .int v0), (1, .ref (ex_ad E v1)), (2, .ref (ex_ad E v2))]) dX4_write_3 (by decide) rfl ?_
  refine gx_aload_n X (j := 4) dX4_write_5 rfl rfl ?_
  obtain ⟨k1, h⟩ := h
  refine gx_kv (gx_rV X (c_X0_clear h) (Nat.le_trans (by decide) hd) (Nat.le_trans (by decide) (Nat.mul_le_mul_left 40 hd)) k1 rfl mw_324 mw_192 mw_193 mw_2 mw_194 hyX0_clear (As := []) (rest := []) rfl rfl (Nat.le_of_ble_eq_true rfl) dX4_write_6) (fun u2 h => ?_)
  refine gx_iconst X (v := 0) dX4_write_9 (by decide) ?_
  refine gx_istore X (lv' := [(5, .int (0 : Int32)), (4, .int (0 : Int32)), (3, .int (0 : Int32)), (0, .int v0), (1, .ref (ex_ad E v1)), (2, .ref (ex_ad E v2))]) dX4_write_10 (by decide) rfl ?_
  exact gx_sub [3, 4, 5, 2, 1, 0] rfl h
set_option maxHeartbeats 4000000 in
set_option maxRecDepth 100000 in
theorem w_X4_write_12 {E : gx_E} (X : gx_X E cX4_write 6 RX4 none) (hd : 2 ≤ ex_d E) {post : gx_S → Prop} (hQ : ex_Q E = va_Qv post (gx_B (ex_Z E)) (gx_A (ex_Z E))) {u : gx_S} {v0 : Int32} {v1 : Nat} {v2 : Nat} {v3 : Int32} {v4 : Int32} {v5 : Int32} (h : (S_X4_lettersFor u v0 (fun (r2 : Int32) (u1 : gx_S) => ((r2 ≤ v5 → post u1) ∧ (¬ r2 ≤ v5 → (gx_isO v1 0 ∧ S_X0_at u1 v1 v5 (fun (r5 : Int32) (u4 : gx_S) => (S_X4_sixBits u4 r5 (fun (r7 : Int32) (u6 : gx_S) => (∀ x8 : Int32, x8 = ((v3 <<< ((6 : Int32) &&& 31)) ||| r7) → (∀ x9 : Int32, x9 = v4 + 6 → ((x9 < (8 : Int32) → (∀ x10 : Int32, x10 = v5 + 1 → J_X4_write_12 E v0 v1 v2 x8 x9 x10 u6)) ∧ (¬ x9 < (8 : Int32) → (∀ x11 : Int32, x11 = x9 + (-8) → (gx_isO v2 0 ∧ S_X0_add u6 v2 ((x8.toUInt32 >>> (x11.toUInt32 &&& Int32.toUInt32 31)).toInt32) (fun (u13 : gx_S) => (∀ x14 : Int32, x14 = v5 + 1 → J_X4_write_12 E v0 v1 v2 x8 x11 x14 u13))))))))))))))))) : gx_Wc E 6 12 [(0, .int v0), (1, .ref (ex_ad E v1)), (2, .ref (ex_ad E v2)), (3, .int v3), (4, .int v4), (5, .int v5)] [] u := by
  refine gx_iload X (j := 5) dX4_write_12 rfl ?_
  refine gx_iload_n X (j := 0) dX4_write_14 rfl rfl ?_
  refine gx_ki (gx_rS X (c_X4_lettersFor h) (Nat.le_trans (by decide) hd) (Nat.le_trans (by decide) (Nat.mul_le_mul_left 40 hd)) mw_307 mw_308 mw_13 mw_309 hyX4_lettersFor (As := [.int v0]) (rest := [.int v5]) rfl rfl (Nat.le_of_ble_eq_true rfl) dX4_write_15) (fun r2 u1 h => ?_)
  refine gx_icmp_ge X (tgt := 63) dX4_write_18 (by decide) (fun c16 => ?_) (fun c16 => ?_)
  · replace h := h.1 c16
    exact gx_vret X hQ h dX4_write_63
  · replace h := h.2 c16
    refine gx_iload_n X (j := 3) dX4_write_21 rfl rfl ?_
    refine gx_bipush X (v := 6) dX4_write_22 (by decide) ?_
    refine gx_ishl X dX4_write_24 ?_
    refine gx_aload_n X (j := 1) dX4_write_25 rfl rfl ?_
    refine gx_iload X (j := 5) dX4_write_26 rfl ?_
    obtain ⟨k3, h⟩ := h
    refine gx_ki (gx_rV X (c_X0_at h) (Nat.le_trans (by decide) hd) (Nat.le_trans (by decide) (Nat.mul_le_mul_left 40 hd)) k3 rfl mw_311 mw_163 mw_164 mw_2 mw_165 hyX0_at (As := [.int v5]) (rest := [.int (v3 <<< ((6 : Int32) &&& 31))]) rfl rfl (Nat.le_of_ble_eq_true rfl) dX4_write_28) (fun r5 u4 h => ?_)
    refine gx_ki (gx_rS X (c_X4_sixBits h) (Nat.le_trans (by decide) hd) (Nat.le_trans (by decide) (Nat.mul_le_mul_left 40 hd)) mw_312 mw_313 mw_13 mw_314 hyX4_sixBits (As := [.int r5]) (rest := [.int (v3 <<< ((6 : Int32) &&& 31))]) rfl rfl (Nat.le_of_ble_eq_true rfl) dX4_write_31) (fun r7 u6 h => ?_)
    refine gx_ior X dX4_write_34 ?_
    refine gx_nami (fun x8 ex8 => ?_)
    replace h := h x8 ex8
    refine gx_istore_n X (lv' := [(3, .int x8), (0, .int v0), (1, .ref (ex_ad E v1)), (2, .ref (ex_ad E v2)), (4, .int v4), (5, .int v5)]) dX4_write_35 rfl (by decide) rfl ?_
    obtain ⟨x9, ex9⟩ : ∃ y : Int32, y = v4 + 6 := ⟨_, rfl⟩
    replace h := h x9 ex9
    refine gx_iinc X (v := x9) (lv' := [(4, .int x9), (3, .int x8), (0, .int v0), (1, .ref (ex_ad E v1)), (2, .ref (ex_ad E v2)), (5, .int v5)]) dX4_write_36 (j := 4) rfl (by rw [ex9]; rfl) (by decide) rfl ?_
    refine gx_iload X (j := 0) dX4_write_39 rfl ?_
    refine gx_bipush X (v := 8) dX4_write_41 (by decide) ?_
    refine gx_icmp_lt X (tgt := 57) dX4_write_43 (by decide) (fun c15 => ?_) (fun c15 => ?_)
    · replace h := h.1 c15
      obtain ⟨x10, ex10⟩ : ∃ y : Int32, y = v5 + 1 := ⟨_, rfl⟩
      replace h := h x10 ex10
      refine gx_iinc X (v := x10) (lv' := [(5, .int x10), (4, .int x9), (3, .int x8), (0, .int v0), (1, .ref (ex_ad E v1)), (2, .ref (ex_ad E v2))]) dX4_write_57 (j := 5) rfl (by rw [ex10]; rfl) (by decide) rfl ?_
      refine gx_goto X (tgt := 12) dX4_write_60 (by decide) ?_
      exact gx_sub [3, 4, 5, 2, 1, 0] rfl h
    · replace h := h.2 c15
      obtain ⟨x11, ex11⟩ : ∃ y : Int32, y = x9 + (-8) := ⟨_, rfl⟩
      replace h := h x11 ex11
      refine gx_iinc X (v := x11) (lv' := [(4, .int x11), (3, .int x8), (0, .int v0), (1, .ref (ex_ad E v1)), (2, .ref (ex_ad E v2)), (5, .int v5)]) dX4_write_46 (j := 0) rfl (by rw [ex11]; rfl) (by decide) rfl ?_
      refine gx_aload_n X (j := 4) dX4_write_49 rfl rfl ?_
      refine gx_iload_n X (j := 1) dX4_write_50 rfl rfl ?_
      refine gx_iload X (j := 0) dX4_write_51 rfl ?_
      refine gx_iushr X (v := (x8.toUInt32 >>> (x11.toUInt32 &&& Int32.toUInt32 31)).toInt32) dX4_write_53 rfl ?_
      obtain ⟨k12, h⟩ := h
      refine gx_kv (gx_rV X (c_X0_add h) (Nat.le_trans (by decide) hd) (Nat.le_trans (by decide) (Nat.mul_le_mul_left 40 hd)) k12 rfl mw_325 mw_136 mw_137 mw_2 mw_138 hyX0_add (As := [.int ((x8.toUInt32 >>> (x11.toUInt32 &&& Int32.toUInt32 31)).toInt32)]) (rest := []) rfl rfl (Nat.le_of_ble_eq_true rfl) dX4_write_54) (fun u13 h => ?_)
      obtain ⟨x14, ex14⟩ : ∃ y : Int32, y = v5 + 1 := ⟨_, rfl⟩
      replace h := h x14 ex14
      refine gx_iinc X (v := x14) (lv' := [(5, .int x14), (4, .int x11), (3, .int x8), (0, .int v0), (1, .ref (ex_ad E v1)), (2, .ref (ex_ad E v2))]) dX4_write_57 (j := 5) rfl (by rw [ex14]; rfl) (by decide) rfl ?_
      refine gx_goto X (tgt := 12) dX4_write_60 (by decide) ?_
      exact gx_sub [3, 4, 5, 2, 1, 0] rfl h
theorem su_ : ∀ n, n < 32 → (((nI n).toUInt32 &&& Int32.toUInt32 31).toBitVec % 32).toNat = n := by decide +kernel
theorem sl_ : ∀ n, n < 32 → ((nI n &&& 31).toBitVec.smod 32).toNat = n := by decide +kernel
theorem sh1 : ∀ e, e < 31 → (1 : Int32) <<< (nI e &&& 31) - 1 = nI (2 ^ e - 1) := by decide +kernel
theorem ushr_nat (x : Int32) {k : Nat} (hk : k < 32) : (x.toUInt32 >>> ((nI k).toUInt32 &&& Int32.toUInt32 31)).toInt32.toBitVec.toNat = x.toBitVec.toNat / 2 ^ k := pk_ushr x (nI k) k (su_ k hk)
theorem i32_lt (x : Int32) : x.toBitVec.toNat < 4294967296 := x.toBitVec.isLt
/-- an int's four bytes, the highest first -/
def wB (x : Int32) : List Nat := [x.toBitVec.toNat / 2 ^ 24 % 256, x.toBitVec.toNat / 2 ^ 16 % 256, x.toBitVec.toNat / 2 ^ 8 % 256, x.toBitVec.toNat % 256]
theorem i_X0_addWord {u : gx_S} {o : Nat} {L : List Nat} {x : Int32} {post : gx_S → Prop} (hB : byL u o L) (hL : L.length + 4 ≤ 2000) (h : byU u o (L ++ wB x) post) : S_X0_addWord u o x post := by
  have e24 : (x.toUInt32 >>> ((24 : Int32).toUInt32 &&& Int32.toUInt32 31)).toInt32.toBitVec.toNat = x.toBitVec.toNat / 2 ^ 24 := ushr_nat x (k := 24) (by omega)
  have e16 : (x.toUInt32 >>> ((16 : Int32).toUInt32 &&& Int32.toUInt32 31)).toInt32.toBitVec.toNat = x.toBitVec.toNat / 2 ^ 16 := ushr_nat x (k := 16) (by omega)
  have e8 : (x.toUInt32 >>> ((8 : Int32).toUInt32 &&& Int32.toUInt32 31)).toInt32.toBitVec.toNat = x.toBitVec.toNat / 2 ^ 8 := ushr_nat x (k := 8) (by omega)
  refine ⟨hB.1, i_X0_add hB (by omega) (c := x.toBitVec.toNat / 2 ^ 24 % 256) (Nat.mod_lt _ (by omega)) (by rw [byte_of, e24]) (fun f1 hf1 => ?_)⟩
  have h1 := byL_push hB hf1 (by omega)
  refine i_X0_add h1 (by simp; omega) (c := x.toBitVec.toNat / 2 ^ 16 % 256) (Nat.mod_lt _ (by omega)) (by rw [byte_of, e16]) (fun f2 hf2 => ?_)
  have h2 := byL_push h1 hf2 (by simp; omega)
  refine i_X0_add h2 (by simp; omega) (c := x.toBitVec.toNat / 2 ^ 8 % 256) (Nat.mod_lt _ (by omega)) (by rw [byte_of, e8]) (fun f3 hf3 => ?_)
  have h3 := byL_push h2 hf3 (by simp; omega)
  refine i_X0_add h3 (by simp; omega) (Nat.mod_lt _ (by omega)) (byte_of x) (byU_W (byU_W (byU_W ?_)))
  simpa [wB] using h
def nlet (n : Nat) : Nat := (n * 8 + 5) / 6
def nlen (n : Nat) : Nat := (n + 2) / 3 * 4
theorem i_X4_lettersFor {u : gx_S} {n : Nat} {post : Int32 → gx_S → Prop} (hn : n ≤ 900) (h : post (nI (nlet n)) u) : S_X4_lettersFor u (nI n) post := by
  unfold S_X4_lettersFor
  rw [show (8 : Int32) = nI 8 from rfl, show (5 : Int32) = nI 5 from rfl, show (6 : Int32) = nI 6 from rfl, pk_mul, nI_add, pk_div (by omega) (by omega) (by omega)]
  exact h
theorem nlet_ok (n : Nat) : n * 8 ≤ nlet n * 6 ∧ nlet n * 6 - n * 8 < 6 := by unfold nlet; omega
theorem i_X4_bitsOver {u : gx_S} {n : Nat} {post : Int32 → gx_S → Prop} (hn : n ≤ 900) (h : post (nI (2 ^ (nlet n * 6 - n * 8) - 1)) u) : S_X4_bitsOver u (nI n) post := by
  refine i_X4_lettersFor hn ?_
  have := nlet_ok n
  rw [show (8 : Int32) = nI 8 from rfl, show (6 : Int32) = nI 6 from rfl, pk_mul, pk_mul, pk_sub this.1, sh1 _ (by omega)]
  exact h
def six (c : Nat) : Nat := if isG c then c - 65 else if isS c then c - 97 + 26 else if isD c then c - 48 + 52 else if c = 43 then 62 else if c = 47 then 63 else 999
theorem six_alt (c : Nat) : six c < 64 ∨ six c = 999 := by
  unfold six isG isS isD
  split
  · rename_i q; simp at q; omega
  · split
    · rename_i q; simp at q; omega
    · split
      · rename_i q; simp at q; omega
      · split
        · omega
        · split <;> omega
theorem i_X4_sixBits {u : gx_S} {c : Nat} {post : Int32 → gx_S → Prop} (hc : c < 256 ∨ c = 999) (h : post (cI (six c)) u) : S_X4_sixBits u (cI c) post := by
  unfold six at h
  have sh : ∀ a b, a ≤ c → c - a + b < 256 → c < 256 → cI c - nI a + nI b = cI (c - a + b) := by
    intro a b h1 h2 h3
    rw [cI_lo h3, cI_lo h2, pk_sub h1, nI_add]
  refine i_X6_isGreatLetter ⟨fun q => i_X6_isSmallLetter ⟨fun q2 => i_X6_isDigit ⟨fun q3 => ⟨fun q4 => ⟨fun q5 => ?_, fun q5 => ?_⟩, fun q4 => ?_⟩, fun q3 => ?_⟩ hc, fun q2 => ?_⟩ hc, fun q => ?_⟩ hc
  · rw [b2_0] at q q2 q3
    have n4 : ¬ c = 43 := fun e => q4 ((cI_eq (k := 43) (by omega)).mpr e)
    have n5 : ¬ c = 47 := fun e => q5 ((cI_eq (k := 47) (by omega)).mpr e)
    simp only [q, q2, q3, n4, n5, Bool.false_eq_true, if_false] at h
    exact h
  · rw [b2_0] at q q2 q3
    have n4 : ¬ c = 43 := fun e => q4 ((cI_eq (k := 43) (by omega)).mpr e)
    have n5 : c = 47 := (cI_eq (k := 47) (by omega)).mp q5
    simp only [q, q2, q3, n4, n5, Bool.false_eq_true, if_false, if_true] at h
    exact h
  · rw [b2_0] at q q2 q3
    have n4 : c = 43 := (cI_eq (k := 43) (by omega)).mp q4
    simp only [q, q2, q3, n4, Bool.false_eq_true, if_false, if_true] at h
    exact h
  · rw [b2_0] at q q2
    have q3 := b2_n0 q3
    have hr : 48 ≤ c ∧ c ≤ 57 := by simpa [isD] using q3
    simp only [q, q2, q3, Bool.false_eq_true, if_false, if_true] at h
    rw [show (48 : Int32) = nI 48 from rfl, show (52 : Int32) = nI 52 from rfl, sh 48 52 hr.1 (by omega) (by omega)]
    exact h
  · rw [b2_0] at q
    have q2 := b2_n0 q2
    have hr : 97 ≤ c ∧ c ≤ 122 := by simpa [isS] using q2
    simp only [q, q2, Bool.false_eq_true, if_false, if_true] at h
    rw [show (97 : Int32) = nI 97 from rfl, show (26 : Int32) = nI 26 from rfl, sh 97 26 hr.1 (by omega) (by omega)]
    exact h
  · have q := b2_n0 q
    have hr : 65 ≤ c ∧ c ≤ 90 := by simpa [isG] using q
    simp only [q, if_true] at h
    rw [show (65 : Int32) = nI 65 from rfl, cI_lo (by omega), pk_sub hr.1]
    rw [cI_lo (by omega)] at h
    exact h
def sxF (L : List Nat) : Nat → Nat → Bool
  | 0, _ => true
  | k + 1, i => if six (ch L i) = 999 then false else sxF L k (i + 1)
def eqF (L : List Nat) : Nat → Nat → Bool
  | 0, _ => true
  | k + 1, i => if ch L i = 61 then eqF L k (i + 1) else false
def aofE (n : Nat) (L : List Nat) : Bool := if n = 0 then true else decide (six (ch L (nlet n - 1)) % 2 ^ (nlet n * 6 - n * 8) = 0)
/-- the row L is base 64 of n bytes -/
def aof (n : Nat) (L : List Nat) : Bool := if L.length = nlen n then (if sxF L (nlet n) 0 = true then (if eqF L (nlen n - nlet n) (nlet n) = true then aofE n L else false) else false) else false
theorem sxF_at {L : List Nat} : ∀ k i, sxF L k i = true → ∀ j, i ≤ j → j < i + k → six (ch L j) < 64
  | 0, i, _, j, h1, h2 => by omega
  | k + 1, i, h, j, h1, h2 => by
    unfold sxF at h
    split at h
    · cases h
    · rename_i q
      by_cases e : j = i
      · subst e
        rcases six_alt (ch L j) with a | a
        · exact a
        · exact absurd a q
      · exact sxF_at k (i + 1) h j (by omega) (by omega)
def S_X4_areOf (u : gx_S) (v0 : Int32) (v1 : Nat) (post : Int32 → gx_S → Prop) : Prop := ∃ (L : List Nat) (n : Nat), n ≤ 900 ∧ v0 = nI n ∧ byL u v1 L ∧ post (b2 (aof n L)) u
theorem lp2_X4_areOf {E : gx_E} (X : gx_X E cX4_areOf 5 RX4 (some .boolean)) (hd : 2 ≤ ex_d E) {post : Int32 → gx_S → Prop} (hQ : ex_Q E = va_Qi post (gx_B (ex_Z E)) (gx_A (ex_Z E))) {v1 n : Nat} {L : List Nat} {u : gx_S} (hn : n ≤ 900) (hL : byL u v1 L) (hs : sxF L (nlet n) 0 = true) :
    ∀ (k i : Nat), nlen n - i = k → i < 2 ^ 29 → post (b2 (if eqF L k i = true then aofE n L else false)) u → J_X4_areOf_57 E (nI n) v1 (nI (nlet n)) (nI (nlen n)) (nI i) u := by
  have hl1 : nlen n ≤ 1300 := by unfold nlen; omega
  have hl2 : nlet n ≤ 1300 := by unfold nlet; omega
  intro k
  induction k with
  | zero =>
    intro i hk hi h
    have hno := nlet_ok n
    rw [eqF, if_pos rfl] at h
    unfold aofE at h
    refine w_X4_areOf_57 X hd hQ ⟨fun _ => ⟨fun z => ?_, fun z => ⟨hL.1, ?_⟩⟩, fun q => absurd (nI_le (by omega) (by omega)) q⟩
    · rw [if_pos ((nI_eq (b := 0) (by omega) (by omega)).mp z)] at h; exact h
    · have hn0 : ¬ n = 0 := fun e => z (by rw [e]; rfl)
      have hp : 1 ≤ nlet n := by unfold nlet; omega
      rw [if_neg hn0] at h
      have hsx := sxF_at _ _ hs (nlet n - 1) (by omega) (by omega)
      rw [show (1 : Int32) = nI 1 from rfl, pk_sub hp]
      refine i_X0_at hL (by omega) (i_X4_sixBits (ch_alt hL.2.2.2.2.2.1 _) (i_X4_bitsOver hn ?_))
      have hpw : 2 ^ (nlet n * 6 - n * 8) ≤ 2 ^ 6 := Nat.pow_le_pow_right (by omega) (by omega)
      rw [cI_lo (by omega), pk_andN (by omega) (nlet n * 6 - n * 8) (pk_tn (by omega))]
      have hm := Nat.mod_le (six (ch L (nlet n - 1))) (2 ^ (nlet n * 6 - n * 8))
      refine ⟨fun z2 => ?_, fun z2 => ?_⟩
      · rw [decide_eq_false (fun e => z2 (by rw [e]; rfl))] at h; exact h
      · rw [decide_eq_true ((nI_eq (b := 0) (by omega) (by omega)).mp z2)] at h; exact h
  | succ k ih =>
    intro i hk hi h
    rw [eqF] at h
    refine w_X4_areOf_57 X hd hQ ⟨fun z => absurd z (nI_ge (by omega) (by omega)), fun _ => ⟨hL.1, i_X0_at hL (by omega) ⟨fun z => ?_, fun z => ?_⟩⟩⟩
    · rintro x13 rfl
      rw [nI_1]
      rw [if_pos ((cI_eq (k := 61) (by omega)).mp z)] at h
      exact ih (i + 1) (by omega) (by omega) h
    · rw [if_neg (fun e => z ((cI_eq (k := 61) (by omega)).mpr e)), if_neg (by decide)] at h
      exact h
theorem lp1_X4_areOf {E : gx_E} (X : gx_X E cX4_areOf 5 RX4 (some .boolean)) (hd : 2 ≤ ex_d E) {post : Int32 → gx_S → Prop} (hQ : ex_Q E = va_Qi post (gx_B (ex_Z E)) (gx_A (ex_Z E))) {v1 n : Nat} {L : List Nat} {u : gx_S} (hn : n ≤ 900) (hL : byL u v1 L) :
    ∀ (k i : Nat), nlet n - i = k → i ≤ nlet n → sxF L (nlet n) 0 = sxF L k i → post (b2 (if sxF L (nlet n) 0 = true then (if eqF L (nlen n - nlet n) (nlet n) = true then aofE n L else false) else false)) u → J_X4_areOf_26 E (nI n) v1 (nI (nlet n)) (nI (nlen n)) (nI i) u := by
  have hl2 : nlet n ≤ 1300 := by unfold nlet; omega
  intro k
  induction k with
  | zero =>
    intro i hk hi he h
    rw [sxF] at he
    rw [if_pos he] at h
    refine w_X4_areOf_26 X hd hQ ⟨fun _ => lp2_X4_areOf X hd hQ hn hL he _ _ rfl (by omega) h, fun q => absurd (nI_le (by omega) (by omega)) q⟩
  | succ k ih =>
    intro i hk hi he h
    rw [sxF] at he
    have ha := six_alt (ch L i)
    refine w_X4_areOf_26 X hd hQ ⟨fun z => absurd z (nI_ge (by omega) (by omega)), fun _ => ⟨hL.1, i_X0_at hL (by omega) (i_X4_sixBits (ch_alt hL.2.2.2.2.2.1 _) ⟨fun z => ?_, fun z => ?_⟩)⟩⟩
    · rintro x6 rfl
      rw [nI_1]
      rw [if_neg (fun e => z (by rw [e]; rfl))] at he
      exact ih (i + 1) (by omega) (by omega) he h
    · have h9 : six (ch L i) = 999 := by
        rcases ha with a | a
        · rw [cI_lo (by omega)] at z; exact absurd z.symm (nI_neg2 (by omega))
        · exact a
      rw [if_pos h9] at he
      rw [he, if_neg (by decide)] at h
      exact h
theorem w_X4_areOf {E : gx_E} (X : gx_X E cX4_areOf 5 RX4 (some .boolean)) (hd : 2 ≤ ex_d E) {post : Int32 → gx_S → Prop} (hQ : ex_Q E = va_Qi post (gx_B (ex_Z E)) (gx_A (ex_Z E))) {u : gx_S} {v0 : Int32} {v1 : Nat} (h : S_X4_areOf u v0 v1 post) : gx_Wc E 5 0 [(0, .int v0), (1, .ref (ex_ad E v1))] [] u := by
  obtain ⟨L, n, hn, rfl, hL, h⟩ := h
  have hL2 := hL.2.2.2.2.1
  have hl1 : nlen n ≤ 1300 := by unfold nlen; omega
  unfold aof at h
  refine w_X4_areOf_0 X hd hQ (i_X4_lettersFor hn ?_)
  intro x3 e3
  rw [show (2 : Int32) = nI 2 from rfl, show (3 : Int32) = nI 3 from rfl, show (4 : Int32) = nI 4 from rfl, nI_add, pk_div (by omega) (by omega) (by omega), pk_mul] at e3
  subst e3
  refine ⟨hL.1, i_X0_size hL ⟨fun z => ?_, fun z => ?_⟩⟩
  · rw [if_pos (show L.length = nlen n from (nI_eq (by omega) (by omega)).mp z)] at h
    exact lp1_X4_areOf X hd hQ hn hL (nlet n) 0 (by omega) (by omega) rfl h
  · rw [if_neg (fun e => z (by rw [e]; rfl))] at h
    exact h
theorem c_X4_areOf {l : Launch} {Z : gx_Z} {u : gx_S} {v0 : Int32} {v1 : Nat} {post : Int32 → gx_S → Prop} (h : S_X4_areOf u v0 v1 post) : Met l yX4_areOf (Cond.code yX4_areOf cX4_areOf 5 (some .boolean) :: gx_TB) (gx_rm 2) (gx_Pre Z u [.int v0, .ref (Z.2.1 v1)]) (va_Qi post (gx_B Z) (gx_A Z)) 0 0 (gx_A Z) := by
  refine gx_met (by decide +kernel) (Nat.le_of_ble_eq_true rfl) ?_
  intro E X hZ hQ hD hL
  subst hZ
  exact w_X4_areOf X (Nat.le_of_eq hD.symm) hQ h
/-- the bytes of letters: w bits wait, of value b -/
def dcF (L : List Nat) : Nat → Nat → Nat → Nat → List Nat → List Nat
  | 0, _, _, _, O => O
  | k + 1, i, w, b, O => if w + 6 < 8 then dcF L k (i + 1) (w + 6) (b * 64 + six (ch L i)) O else dcF L k (i + 1) (w - 2) ((b * 64 + six (ch L i)) % 2 ^ (w - 2)) (O ++ [(b * 64 + six (ch L i)) / 2 ^ (w - 2)])
theorem m8_ : ∀ w, w < 8 → 2 ≤ w → nI (w + 6) + (-8) = nI (w - 2) := by decide +kernel
def S_X4_write (u : gx_S) (v0 : Int32) (v1 v2 : Nat) (post : gx_S → Prop) : Prop := ∃ (L O : List Nat) (n : Nat), n ≤ 900 ∧ v0 = nI n ∧ byL u v1 L ∧ byL u v2 O ∧ v1 ≠ v2 ∧ gx_r u v1 0 ≠ gx_r u v2 0 ∧ sxF L (nlet n) 0 = true ∧ byU u v2 (dcF L (nlet n) 0 0 0 []) post
theorem or64 (A s : Nat) (hs : s < 64) : (A * 2 ^ 6 % 2 ^ 32 ||| s) = (A % 2 ^ 26) * 64 + s := by
  have e : A * 2 ^ 6 % 2 ^ 32 = 2 ^ 6 * (A % 2 ^ 26) := by omega
  rw [e, ← Nat.two_pow_add_eq_or_of_lt (by omega)]
  omega
theorem bits6 (x : Int32) {s : Nat} (hs : s < 64) : ((x <<< ((6 : Int32) &&& 31)) ||| nI s).toBitVec.toNat = (x.toBitVec.toNat % 2 ^ 26) * 64 + s := by
  show ((x <<< ((6 : Int32) &&& 31)).toBitVec ||| (nI s).toBitVec).toNat = _
  rw [BitVec.toNat_or, pk_shl x ((6 : Int32) &&& 31) 6 (by decide), pk_tn (by omega)]
  exact or64 _ s hs
theorem mod6 (A b w s : Nat) (hw : w < 8) (hb : A % 2 ^ w = b) (hs : s < 64) : ((A % 2 ^ 26) * 64 + s) % 2 ^ (w + 6) = b * 64 + s := by
  subst hb
  have h : w = 0 ∨ w = 1 ∨ w = 2 ∨ w = 3 ∨ w = 4 ∨ w = 5 ∨ w = 6 ∨ w = 7 := by omega
  rcases h with rfl | rfl | rfl | rfl | rfl | rfl | rfl | rfl <;> simp only [Nat.reducePow, Nat.reduceAdd] <;> omega
theorem div6 (N x w : Nat) (hw : 2 ≤ w) (hw2 : w < 8) (h : N % 2 ^ (w + 6) = x) : N / 2 ^ (w - 2) % 256 = x / 2 ^ (w - 2) ∧ N % 2 ^ (w - 2) = x % 2 ^ (w - 2) := by
  subst h
  have h : w = 2 ∨ w = 3 ∨ w = 4 ∨ w = 5 ∨ w = 6 ∨ w = 7 := by omega
  rcases h with rfl | rfl | rfl | rfl | rfl | rfl <;> simp only [Nat.reducePow, Nat.reduceAdd, Nat.reduceSub] <;> omega
theorem lp_X4_write {E : gx_E} (X : gx_X E cX4_write 6 RX4 none) (hd : 2 ≤ ex_d E) {post : gx_S → Prop} (hQ : ex_Q E = va_Qv post (gx_B (ex_Z E)) (gx_A (ex_Z E))) {v1 v2 n : Nat} {L : List Nat} (hn : n ≤ 900) (hs : sxF L (nlet n) 0 = true) (hne : v1 ≠ v2) :
    ∀ (k i w b : Nat) (x : Int32) (O : List Nat) (u : gx_S), nlet n - i = k → i ≤ nlet n → w < 8 → x.toBitVec.toNat % 2 ^ w = b → O.length ≤ i → byL u v1 L → byL u v2 O → gx_r u v1 0 ≠ gx_r u v2 0 → byU u v2 (dcF L k i w b O) post → J_X4_write_12 E (nI n) v1 v2 x (nI w) (nI i) u := by
  have hl2 : nlet n ≤ 1300 := by unfold nlet; omega
  intro k
  induction k with
  | zero =>
    intro i w b x O u hk hi hw hb hO hL hOb hr h
    refine w_X4_write_12 X hd hQ (i_X4_lettersFor hn ⟨fun _ => byU_self hOb h, fun q => absurd (nI_le (by omega) (by omega)) q⟩)
  | succ k ih =>
    intro i w b x O u hk hi hw hb hO hL hOb hr h
    have hsx := sxF_at _ _ hs i (by omega) (by omega)
    have hx8 := bits6 x hsx
    have hm := mod6 x.toBitVec.toNat b w (six (ch L i)) hw hb hsx
    refine w_X4_write_12 X hd hQ (i_X4_lettersFor hn ⟨fun z => absurd z (nI_ge (by omega) (by omega)), fun _ => ⟨hL.1, i_X0_at hL (by omega) (i_X4_sixBits (ch_alt hL.2.2.2.2.2.1 _) ?_)⟩⟩)
    rw [cI_lo (by omega)]
    intro x8 e8 x9 e9
    rw [← e8] at hx8
    rw [show (6 : Int32) = nI 6 from rfl, nI_add] at e9
    subst e9
    rw [← hx8] at hm
    rw [dcF] at h
    refine ⟨fun z => ?_, fun z => ?_⟩
    · rintro x10 rfl
      rw [nI_1]
      rw [show (8 : Int32) = nI 8 from rfl, nI_ltI (by omega) (by omega)] at z
      rw [if_pos z] at h
      exact ih (i + 1) (w + 6) _ x8 O u (by omega) (by omega) z hm (by omega) hL hOb hr h
    · rintro x11 e11
      rw [show (8 : Int32) = nI 8 from rfl, nI_ltI (by omega) (by omega)] at z
      rw [if_neg z] at h
      rw [m8_ w hw (by omega)] at e11
      subst e11
      obtain ⟨d1, d2⟩ := div6 x8.toBitVec.toNat _ w (by omega) hw hm
      have hc : (b * 64 + six (ch L i)) / 2 ^ (w - 2) < 256 := by rw [← d1]; exact Nat.mod_lt _ (by omega)
      refine ⟨hOb.1, i_X0_add hOb (by omega) hc (by rw [byte_of, ushr_nat x8 (by omega), d1]) (fun f hf => ?_)⟩
      rintro x14 rfl
      rw [nI_1]
      exact ih (i + 1) (w - 2) _ x8 _ _ (by omega) (by omega) (by omega) d2 (by rw [len_push]; omega) (byL_ne hL hne hr) (byL_push hOb hf (by omega)) hr (byU_W h)
theorem w_X4_write {E : gx_E} (X : gx_X E cX4_write 6 RX4 none) (hd : 2 ≤ ex_d E) {post : gx_S → Prop} (hQ : ex_Q E = va_Qv post (gx_B (ex_Z E)) (gx_A (ex_Z E))) {u : gx_S} {v0 : Int32} {v1 v2 : Nat} (h : S_X4_write u v0 v1 v2 post) : gx_Wc E 6 0 [(0, .int v0), (1, .ref (ex_ad E v1)), (2, .ref (ex_ad E v2))] [] u := by
  obtain ⟨L, O, n, hn, rfl, hL, hO, hne, hr, hs, h⟩ := h
  refine w_X4_write_0 X hd hQ ⟨hO.1, i_X0_clear hO (fun f hf => ?_)⟩
  exact lp_X4_write X hd hQ hn hs hne (nlet n) 0 0 0 0 [] _ (by omega) (by omega) (by omega) (by decide) (by simp) (byL_ne hL hne hr) (byL_W hO hf (by simp)) hr (byU_W h)
theorem c_X4_write {l : Launch} {Z : gx_Z} {u : gx_S} {v0 : Int32} {v1 : Nat} {v2 : Nat} {post : gx_S → Prop} (h : S_X4_write u v0 v1 v2 post) : Met l yX4_write (Cond.code yX4_write cX4_write 6 none :: gx_TB) (gx_rm 2) (gx_Pre Z u [.int v0, .ref (Z.2.1 v1), .ref (Z.2.1 v2)]) (va_Qv post (gx_B Z) (gx_A Z)) 0 0 (gx_A Z) := by
  refine gx_met (by decide +kernel) (Nat.le_of_ble_eq_true rfl) ?_
  intro E X hZ hQ hD hL
  subst hZ
  exact w_X4_write X (Nat.le_of_eq hD.symm) hQ h
end
section
-- PlainSeal$Sha256.turned(II)I
theorem dX3_turned_0 : decode cX3_turned 0 = .ok (.iload_n 0, 1) := by decide +kernel
theorem dX3_turned_1 : decode cX3_turned 1 = .ok (.iload_n 1, 1) := by decide +kernel
theorem dX3_turned_2 : decode cX3_turned 2 = .ok (.iushr, 1) := by decide +kernel
theorem dX3_turned_3 : decode cX3_turned 3 = .ok (.iload_n 0, 1) := by decide +kernel
theorem dX3_turned_4 : decode cX3_turned 4 = .ok (.bipush 32, 2) := by decide +kernel
theorem dX3_turned_6 : decode cX3_turned 6 = .ok (.iload_n 1, 1) := by decide +kernel
theorem dX3_turned_7 : decode cX3_turned 7 = .ok (.isub, 1) := by decide +kernel
theorem dX3_turned_8 : decode cX3_turned 8 = .ok (.ishl, 1) := by decide +kernel
theorem dX3_turned_9 : decode cX3_turned 9 = .ok (.ior, 1) := by decide +kernel
theorem dX3_turned_10 : decode cX3_turned 10 = .ok (.ireturn, 1) := by decide +kernel
theorem hyX3_turned : yX3_turned.cls ≠ "java/lang/invoke/MethodHandle" ∧ yX3_turned.cls ≠ "java/lang/invoke/VarHandle" ∧ (parseMethodDescriptor yX3_turned.desc).map (fun d => d.parameters.length) = some 2 := by decide +kernel
def S_X3_turned (u : gx_S) (v0 : Int32) (v1 : Int32) (post : Int32 → gx_S → Prop) : Prop := post (((v0.toUInt32 >>> (v1.toUInt32 &&& Int32.toUInt32 31)).toInt32) ||| (v0 <<< (((32 : Int32) - v1) &&& 31))) u
set_option maxHeartbeats 4000000 in
set_option maxRecDepth 100000 in
theorem w_X3_turned {E : gx_E} (X : gx_X E cX3_turned 2 RX3 (some .int)) (hd : 0 ≤ ex_d E) {post : Int32 → gx_S → Prop} (hQ : ex_Q E = va_Qi post (gx_B (ex_Z E)) (gx_A (ex_Z E))) {u : gx_S} {v0 : Int32} {v1 : Int32} (h : S_X3_turned u v0 v1 post) : gx_Wc E 2 0 [(0, .int v0), (1, .int v1)] [] u := by
  unfold S_X3_turned at h
  refine gx_iload_n X (j := 0) dX3_turned_0 rfl rfl ?_
  refine gx_iload_n X (j := 1) dX3_turned_1 rfl rfl ?_
  refine gx_iushr X (v := (v0.toUInt32 >>> (v1.toUInt32 &&& Int32.toUInt32 31)).toInt32) dX3_turned_2 rfl ?_
  refine gx_iload_n X (j := 0) dX3_turned_3 rfl rfl ?_
  refine gx_bipush X (v := 32) dX3_turned_4 (by decide) ?_
  refine gx_iload_n X (j := 1) dX3_turned_6 rfl rfl ?_
  refine gx_isub X dX3_turned_7 ?_
  refine gx_ishl X dX3_turned_8 ?_
  refine gx_ior X dX3_turned_9 ?_
  exact gx_iret X hQ h dX3_turned_10
theorem c_X3_turned {l : Launch} {Z : gx_Z} {u : gx_S} {v0 : Int32} {v1 : Int32} {post : Int32 → gx_S → Prop} (h : S_X3_turned u v0 v1 post) : Met l yX3_turned (Cond.code yX3_turned cX3_turned 2 (some .int) :: gx_TB) (gx_rm 0) (gx_Pre Z u [.int v0, .int v1]) (va_Qi post (gx_B Z) (gx_A Z)) 0 0 (gx_A Z) := by
  refine gx_met (by decide +kernel) (Nat.le_of_ble_eq_true rfl) ?_
  intro E X hZ hQ hD hL
  subst hZ
  exact w_X3_turned X (Nat.le_of_eq hD.symm) hQ h
-- PlainSeal$Sha256.paddedByte(LPlainSeal$Bytes;I)I
theorem dX3_paddedByte_0 : decode cX3_paddedByte 0 = .ok (.iload_n 1, 1) := by decide +kernel
theorem dX3_paddedByte_1 : decode cX3_paddedByte 1 = .ok (.aload_n 0, 1) := by decide +kernel
theorem dX3_paddedByte_2 : decode cX3_paddedByte 2 = .ok (.invokevirtual 19, 3) := by decide +kernel
theorem dX3_paddedByte_5 : decode cX3_paddedByte 5 = .ok (.if_icmp .ge 9, 3) := by decide +kernel
theorem dX3_paddedByte_8 : decode cX3_paddedByte 8 = .ok (.aload_n 0, 1) := by decide +kernel
theorem dX3_paddedByte_9 : decode cX3_paddedByte 9 = .ok (.iload_n 1, 1) := by decide +kernel
theorem dX3_paddedByte_10 : decode cX3_paddedByte 10 = .ok (.invokevirtual 59, 3) := by decide +kernel
theorem dX3_paddedByte_13 : decode cX3_paddedByte 13 = .ok (.ireturn, 1) := by decide +kernel
theorem dX3_paddedByte_14 : decode cX3_paddedByte 14 = .ok (.iload_n 1, 1) := by decide +kernel
theorem dX3_paddedByte_15 : decode cX3_paddedByte 15 = .ok (.aload_n 0, 1) := by decide +kernel
theorem dX3_paddedByte_16 : decode cX3_paddedByte 16 = .ok (.invokevirtual 19, 3) := by decide +kernel
theorem dX3_paddedByte_19 : decode cX3_paddedByte 19 = .ok (.if_icmp .ne 9, 3) := by decide +kernel
theorem dX3_paddedByte_22 : decode cX3_paddedByte 22 = .ok (.sipush 128, 3) := by decide +kernel
theorem dX3_paddedByte_25 : decode cX3_paddedByte 25 = .ok (.goto 4, 3) := by decide +kernel
theorem dX3_paddedByte_28 : decode cX3_paddedByte 28 = .ok (.iconst 0, 1) := by decide +kernel
theorem dX3_paddedByte_29 : decode cX3_paddedByte 29 = .ok (.ireturn, 1) := by decide +kernel
theorem hyX3_paddedByte : yX3_paddedByte.cls ≠ "java/lang/invoke/MethodHandle" ∧ yX3_paddedByte.cls ≠ "java/lang/invoke/VarHandle" ∧ (parseMethodDescriptor yX3_paddedByte.desc).map (fun d => d.parameters.length) = some 2 := by decide +kernel
def S_X3_paddedByte (u : gx_S) (v0 : Nat) (v1 : Int32) (post : Int32 → gx_S → Prop) : Prop := (gx_isO v0 0 ∧ S_X0_size u v0 (fun (r3 : Int32) (u2 : gx_S) => ((r3 ≤ v1 → (S_X0_size u2 v0 (fun (r5 : Int32) (u4 : gx_S) => ((¬ v1 = r5 → post (0 : Int32) u4) ∧ (v1 = r5 → post (128 : Int32) u4))))) ∧ (¬ r3 ≤ v1 → (S_X0_at u2 v0 v1 (fun (r8 : Int32) (u7 : gx_S) => post r8 u7))))))
set_option maxHeartbeats 4000000 in
set_option maxRecDepth 100000 in
theorem w_X3_paddedByte {E : gx_E} (X : gx_X E cX3_paddedByte 2 RX3 (some .int)) (hd : 1 ≤ ex_d E) {post : Int32 → gx_S → Prop} (hQ : ex_Q E = va_Qi post (gx_B (ex_Z E)) (gx_A (ex_Z E))) {u : gx_S} {v0 : Nat} {v1 : Int32} (h : S_X3_paddedByte u v0 v1 post) : gx_Wc E 2 0 [(0, .ref (ex_ad E v0)), (1, .int v1)] [] u := by
  unfold S_X3_paddedByte at h
  refine gx_iload_n X (j := 1) dX3_paddedByte_0 rfl rfl ?_
  refine gx_aload_n X (j := 0) dX3_paddedByte_1 rfl rfl ?_
  obtain ⟨k1, h⟩ := h
  refine gx_ki (gx_rV X (c_X0_size h) (Nat.le_trans (by decide) hd) (Nat.le_trans (by decide) (Nat.mul_le_mul_left 40 hd)) k1 rfl mw_334 mw_128 mw_129 mw_2 mw_130 hyX0_size (As := []) (rest := [.int v1]) rfl rfl (Nat.le_of_ble_eq_true rfl) dX3_paddedByte_2) (fun r3 u2 h => ?_)
  refine gx_icmp_ge X (tgt := 14) dX3_paddedByte_5 (by decide) (fun c9 => ?_) (fun c9 => ?_)
  · replace h := h.1 c9
    refine gx_iload_n X (j := 1) dX3_paddedByte_14 rfl rfl ?_
    refine gx_aload_n X (j := 0) dX3_paddedByte_15 rfl rfl ?_
    refine gx_ki (gx_rV X (c_X0_size h) (Nat.le_trans (by decide) hd) (Nat.le_trans (by decide) (Nat.mul_le_mul_left 40 hd)) k1 rfl mw_334 mw_128 mw_129 mw_2 mw_130 hyX0_size (As := []) (rest := [.int v1]) rfl rfl (Nat.le_of_ble_eq_true rfl) dX3_paddedByte_16) (fun r5 u4 h => ?_)
    refine gx_icmp_ne X (tgt := 28) dX3_paddedByte_19 (by decide) (fun c6 => ?_) (fun c6 => ?_)
    · replace h := h.1 c6
      refine gx_iconst X (v := 0) dX3_paddedByte_28 (by decide) ?_
      exact gx_iret X hQ h dX3_paddedByte_29
    · replace h := h.2 c6
      refine gx_sipush X (v := 128) dX3_paddedByte_22 (by decide) ?_
      refine gx_goto X (tgt := 29) dX3_paddedByte_25 (by decide) ?_
      exact gx_iret X hQ h dX3_paddedByte_29
  · replace h := h.2 c9
    refine gx_aload_n X (j := 0) dX3_paddedByte_8 rfl rfl ?_
    refine gx_iload_n X (j := 1) dX3_paddedByte_9 rfl rfl ?_
    refine gx_ki (gx_rV X (c_X0_at h) (Nat.le_trans (by decide) hd) (Nat.le_trans (by decide) (Nat.mul_le_mul_left 40 hd)) k1 rfl mw_350 mw_163 mw_164 mw_2 mw_165 hyX0_at (As := [.int v1]) (rest := []) rfl rfl (Nat.le_of_ble_eq_true rfl) dX3_paddedByte_10) (fun r8 u7 h => ?_)
    exact gx_iret X hQ h dX3_paddedByte_13
theorem c_X3_paddedByte {l : Launch} {Z : gx_Z} {u : gx_S} {v0 : Nat} {v1 : Int32} {post : Int32 → gx_S → Prop} (h : S_X3_paddedByte u v0 v1 post) : Met l yX3_paddedByte (Cond.code yX3_paddedByte cX3_paddedByte 2 (some .int) :: gx_TB) (gx_rm 1) (gx_Pre Z u [.ref (Z.2.1 v0), .int v1]) (va_Qi post (gx_B Z) (gx_A Z)) 0 0 (gx_A Z) := by
  refine gx_met (by decide +kernel) (Nat.le_of_ble_eq_true rfl) ?_
  intro E X hZ hQ hD hL
  subst hZ
  exact w_X3_paddedByte X (Nat.le_of_eq hD.symm) hQ h
-- PlainSeal$Sha256.paddedWord(LPlainSeal$Bytes;I)I
theorem dX3_paddedWord_0 : decode cX3_paddedWord 0 = .ok (.iconst 0, 1) := by decide +kernel
theorem dX3_paddedWord_1 : decode cX3_paddedWord 1 = .ok (.istore_n 2, 1) := by decide +kernel
theorem dX3_paddedWord_2 : decode cX3_paddedWord 2 = .ok (.iload_n 1, 1) := by decide +kernel
theorem dX3_paddedWord_3 : decode cX3_paddedWord 3 = .ok (.istore_n 3, 1) := by decide +kernel
theorem dX3_paddedWord_4 : decode cX3_paddedWord 4 = .ok (.iload_n 3, 1) := by decide +kernel
theorem dX3_paddedWord_5 : decode cX3_paddedWord 5 = .ok (.iload_n 1, 1) := by decide +kernel
theorem dX3_paddedWord_6 : decode cX3_paddedWord 6 = .ok (.iconst 4, 1) := by decide +kernel
theorem dX3_paddedWord_7 : decode cX3_paddedWord 7 = .ok (.iadd, 1) := by decide +kernel
theorem dX3_paddedWord_8 : decode cX3_paddedWord 8 = .ok (.if_icmp .ge 20, 3) := by decide +kernel
theorem dX3_paddedWord_11 : decode cX3_paddedWord 11 = .ok (.iload_n 2, 1) := by decide +kernel
theorem dX3_paddedWord_12 : decode cX3_paddedWord 12 = .ok (.bipush 8, 2) := by decide +kernel
theorem dX3_paddedWord_14 : decode cX3_paddedWord 14 = .ok (.ishl, 1) := by decide +kernel
theorem dX3_paddedWord_15 : decode cX3_paddedWord 15 = .ok (.aload_n 0, 1) := by decide +kernel
theorem dX3_paddedWord_16 : decode cX3_paddedWord 16 = .ok (.iload_n 3, 1) := by decide +kernel
theorem dX3_paddedWord_17 : decode cX3_paddedWord 17 = .ok (.invokestatic 56, 3) := by decide +kernel
theorem dX3_paddedWord_20 : decode cX3_paddedWord 20 = .ok (.ior, 1) := by decide +kernel
theorem dX3_paddedWord_21 : decode cX3_paddedWord 21 = .ok (.istore_n 2, 1) := by decide +kernel
theorem dX3_paddedWord_22 : decode cX3_paddedWord 22 = .ok (.iinc 3 1, 3) := by decide +kernel
theorem dX3_paddedWord_25 : decode cX3_paddedWord 25 = .ok (.goto (-21), 3) := by decide +kernel
theorem dX3_paddedWord_28 : decode cX3_paddedWord 28 = .ok (.iload_n 2, 1) := by decide +kernel
theorem dX3_paddedWord_29 : decode cX3_paddedWord 29 = .ok (.ireturn, 1) := by decide +kernel
theorem hyX3_paddedWord : yX3_paddedWord.cls ≠ "java/lang/invoke/MethodHandle" ∧ yX3_paddedWord.cls ≠ "java/lang/invoke/VarHandle" ∧ (parseMethodDescriptor yX3_paddedWord.desc).map (fun d => d.parameters.length) = some 2 := by decide +kernel
abbrev J_X3_paddedWord_4 (E : gx_E) (v0 : Nat) (v1 : Int32) (v2 : Int32) (v3 : Int32) (u : gx_S) : Prop := gx_Wc E 4 4 [(0, .ref (ex_ad E v0)), (1, .int v1), (2, .int v2), (3, .int v3)] [] u
set_option maxHeartbeats 4000000 in
set_option maxRecDepth 100000 in
theorem w_X3_paddedWord_0 {E : gx_E} (X : gx_X E cX3_paddedWord 4 RX3 (some .int)) (hd : 2 ≤ ex_d E) {post : Int32 → gx_S → Prop} (hQ : ex_Q E = va_Qi post (gx_B (ex_Z E)) (gx_A (ex_Z E))) {u : gx_S} {v0 : Nat} {v1 : Int32} (h : J_X3_paddedWord_4 E v0 v1 (0 : Int32) v1 u) : gx_Wc E 4 0 [(0, .ref (ex_ad E v0)), (1, .int v1)] [] u := by
  refine gx_iconst X (v := 0) dX3_paddedWord_0 (by decide) ?_
  refine gx_istore_n X (lv' := [(2, .int (0 : Int32)), (0, .ref (ex_ad E v0)), (1, .int v1)]) dX3_paddedWord_1 rfl (by decide) rfl ?_
  refine gx_iload_n X (j := 2) dX3_paddedWord_2 rfl rfl ?_
  refine gx_istore_n X (lv' := [(3, .int v1), (2, .int (0 : Int32)), (0, .ref (ex_ad E v0)), (1, .int v1)]) dX3_paddedWord_3 rfl (by decide) rfl ?_
  exact gx_sub [2, 3, 1, 0] rfl h
set_option maxHeartbeats 4000000 in
set_option maxRecDepth 100000 in
theorem w_X3_paddedWord_4 {E : gx_E} (X : gx_X E cX3_paddedWord 4 RX3 (some .int)) (hd : 2 ≤ ex_d E) {post : Int32 → gx_S → Prop} (hQ : ex_Q E = va_Qi post (gx_B (ex_Z E)) (gx_A (ex_Z E))) {u : gx_S} {v0 : Nat} {v1 : Int32} {v2 : Int32} {v3 : Int32} (h : (((v1 + (4 : Int32)) ≤ v3 → post v2 u) ∧ (¬ (v1 + (4 : Int32)) ≤ v3 → (S_X3_paddedByte u v0 v3 (fun (r2 : Int32) (u1 : gx_S) => (∀ x3 : Int32, x3 = ((v2 <<< ((8 : Int32) &&& 31)) ||| r2) → (∀ x4 : Int32, x4 = v3 + 1 → J_X3_paddedWord_4 E v0 v1 x3 x4 u1))))))) : gx_Wc E 4 4 [(0, .ref (ex_ad E v0)), (1, .int v1), (2, .int v2), (3, .int v3)] [] u := by
  refine gx_iload_n X (j := 3) dX3_paddedWord_4 rfl rfl ?_
  refine gx_iload_n X (j := 1) dX3_paddedWord_5 rfl rfl ?_
  refine gx_iconst X (v := 4) dX3_paddedWord_6 (by decide) ?_
  refine gx_iadd X dX3_paddedWord_7 ?_
  refine gx_icmp_ge X (tgt := 28) dX3_paddedWord_8 (by decide) (fun c5 => ?_) (fun c5 => ?_)
  · replace h := h.1 c5
    refine gx_iload_n X (j := 2) dX3_paddedWord_28 rfl rfl ?_
    exact gx_iret X hQ h dX3_paddedWord_29
  · replace h := h.2 c5
    refine gx_iload_n X (j := 2) dX3_paddedWord_11 rfl rfl ?_
    refine gx_bipush X (v := 8) dX3_paddedWord_12 (by decide) ?_
    refine gx_ishl X dX3_paddedWord_14 ?_
    refine gx_aload_n X (j := 0) dX3_paddedWord_15 rfl rfl ?_
    refine gx_iload_n X (j := 3) dX3_paddedWord_16 rfl rfl ?_
    refine gx_ki (gx_rS X (c_X3_paddedByte h) (Nat.le_trans (by decide) hd) (Nat.le_trans (by decide) (Nat.mul_le_mul_left 40 hd)) mw_347 mw_348 mw_5 mw_349 hyX3_paddedByte (As := [.ref (ex_ad E v0), .int v3]) (rest := [.int (v2 <<< ((8 : Int32) &&& 31))]) rfl rfl (Nat.le_of_ble_eq_true rfl) dX3_paddedWord_17) (fun r2 u1 h => ?_)
    refine gx_ior X dX3_paddedWord_20 ?_
    refine gx_nami (fun x3 ex3 => ?_)
    replace h := h x3 ex3
    refine gx_istore_n X (lv' := [(2, .int x3), (0, .ref (ex_ad E v0)), (1, .int v1), (3, .int v3)]) dX3_paddedWord_21 rfl (by decide) rfl ?_
    obtain ⟨x4, ex4⟩ : ∃ y : Int32, y = v3 + 1 := ⟨_, rfl⟩
    replace h := h x4 ex4
    refine gx_iinc X (v := x4) (lv' := [(3, .int x4), (2, .int x3), (0, .ref (ex_ad E v0)), (1, .int v1)]) dX3_paddedWord_22 (j := 3) rfl (by rw [ex4]; rfl) (by decide) rfl ?_
    refine gx_goto X (tgt := 4) dX3_paddedWord_25 (by decide) ?_
    exact gx_sub [2, 3, 1, 0] rfl h
-- PlainSeal$Sha256.mixRound(I)V
theorem dX3_mixRound_0 : decode cX3_mixRound 0 = .ok (.aload_n 0, 1) := by decide +kernel
theorem dX3_mixRound_1 : decode cX3_mixRound 1 = .ok (.getfield 13, 3) := by decide +kernel
theorem dX3_mixRound_4 : decode cX3_mixRound 4 = .ok (.iconst 0, 1) := by decide +kernel
theorem dX3_mixRound_5 : decode cX3_mixRound 5 = .ok (.iaload, 1) := by decide +kernel
theorem dX3_mixRound_6 : decode cX3_mixRound 6 = .ok (.istore_n 2, 1) := by decide +kernel
theorem dX3_mixRound_7 : decode cX3_mixRound 7 = .ok (.aload_n 0, 1) := by decide +kernel
theorem dX3_mixRound_8 : decode cX3_mixRound 8 = .ok (.getfield 13, 3) := by decide +kernel
theorem dX3_mixRound_11 : decode cX3_mixRound 11 = .ok (.iconst 4, 1) := by decide +kernel
theorem dX3_mixRound_12 : decode cX3_mixRound 12 = .ok (.iaload, 1) := by decide +kernel
theorem dX3_mixRound_13 : decode cX3_mixRound 13 = .ok (.istore_n 3, 1) := by decide +kernel
theorem dX3_mixRound_14 : decode cX3_mixRound 14 = .ok (.iload_n 3, 1) := by decide +kernel
theorem dX3_mixRound_15 : decode cX3_mixRound 15 = .ok (.aload_n 0, 1) := by decide +kernel
theorem dX3_mixRound_16 : decode cX3_mixRound 16 = .ok (.getfield 13, 3) := by decide +kernel
theorem dX3_mixRound_19 : decode cX3_mixRound 19 = .ok (.iconst 5, 1) := by decide +kernel
theorem dX3_mixRound_20 : decode cX3_mixRound 20 = .ok (.iaload, 1) := by decide +kernel
theorem dX3_mixRound_21 : decode cX3_mixRound 21 = .ok (.iand, 1) := by decide +kernel
theorem dX3_mixRound_22 : decode cX3_mixRound 22 = .ok (.iload_n 3, 1) := by decide +kernel
theorem dX3_mixRound_23 : decode cX3_mixRound 23 = .ok (.iconst (-1), 1) := by decide +kernel
theorem dX3_mixRound_24 : decode cX3_mixRound 24 = .ok (.ixor, 1) := by decide +kernel
theorem dX3_mixRound_25 : decode cX3_mixRound 25 = .ok (.aload_n 0, 1) := by decide +kernel
theorem dX3_mixRound_26 : decode cX3_mixRound 26 = .ok (.getfield 13, 3) := by decide +kernel
theorem dX3_mixRound_29 : decode cX3_mixRound 29 = .ok (.bipush 6, 2) := by decide +kernel
theorem dX3_mixRound_31 : decode cX3_mixRound 31 = .ok (.iaload, 1) := by decide +kernel
theorem dX3_mixRound_32 : decode cX3_mixRound 32 = .ok (.iand, 1) := by decide +kernel
theorem dX3_mixRound_33 : decode cX3_mixRound 33 = .ok (.ixor, 1) := by decide +kernel
theorem dX3_mixRound_34 : decode cX3_mixRound 34 = .ok (.istore 4, 2) := by decide +kernel
theorem dX3_mixRound_36 : decode cX3_mixRound 36 = .ok (.iload_n 2, 1) := by decide +kernel
theorem dX3_mixRound_37 : decode cX3_mixRound 37 = .ok (.aload_n 0, 1) := by decide +kernel
theorem dX3_mixRound_38 : decode cX3_mixRound 38 = .ok (.getfield 13, 3) := by decide +kernel
theorem dX3_mixRound_41 : decode cX3_mixRound 41 = .ok (.iconst 1, 1) := by decide +kernel
theorem dX3_mixRound_42 : decode cX3_mixRound 42 = .ok (.iaload, 1) := by decide +kernel
theorem dX3_mixRound_43 : decode cX3_mixRound 43 = .ok (.iand, 1) := by decide +kernel
theorem dX3_mixRound_44 : decode cX3_mixRound 44 = .ok (.iload_n 2, 1) := by decide +kernel
theorem dX3_mixRound_45 : decode cX3_mixRound 45 = .ok (.aload_n 0, 1) := by decide +kernel
theorem dX3_mixRound_46 : decode cX3_mixRound 46 = .ok (.getfield 13, 3) := by decide +kernel
theorem dX3_mixRound_49 : decode cX3_mixRound 49 = .ok (.iconst 2, 1) := by decide +kernel
theorem dX3_mixRound_50 : decode cX3_mixRound 50 = .ok (.iaload, 1) := by decide +kernel
theorem dX3_mixRound_51 : decode cX3_mixRound 51 = .ok (.iand, 1) := by decide +kernel
theorem dX3_mixRound_52 : decode cX3_mixRound 52 = .ok (.ixor, 1) := by decide +kernel
theorem dX3_mixRound_53 : decode cX3_mixRound 53 = .ok (.aload_n 0, 1) := by decide +kernel
theorem dX3_mixRound_54 : decode cX3_mixRound 54 = .ok (.getfield 13, 3) := by decide +kernel
theorem dX3_mixRound_57 : decode cX3_mixRound 57 = .ok (.iconst 1, 1) := by decide +kernel
theorem dX3_mixRound_58 : decode cX3_mixRound 58 = .ok (.iaload, 1) := by decide +kernel
theorem dX3_mixRound_59 : decode cX3_mixRound 59 = .ok (.aload_n 0, 1) := by decide +kernel
theorem dX3_mixRound_60 : decode cX3_mixRound 60 = .ok (.getfield 13, 3) := by decide +kernel
theorem dX3_mixRound_63 : decode cX3_mixRound 63 = .ok (.iconst 2, 1) := by decide +kernel
theorem dX3_mixRound_64 : decode cX3_mixRound 64 = .ok (.iaload, 1) := by decide +kernel
theorem dX3_mixRound_65 : decode cX3_mixRound 65 = .ok (.iand, 1) := by decide +kernel
theorem dX3_mixRound_66 : decode cX3_mixRound 66 = .ok (.ixor, 1) := by decide +kernel
theorem dX3_mixRound_67 : decode cX3_mixRound 67 = .ok (.istore 5, 2) := by decide +kernel
theorem dX3_mixRound_69 : decode cX3_mixRound 69 = .ok (.aload_n 0, 1) := by decide +kernel
theorem dX3_mixRound_70 : decode cX3_mixRound 70 = .ok (.getfield 13, 3) := by decide +kernel
theorem dX3_mixRound_73 : decode cX3_mixRound 73 = .ok (.bipush 7, 2) := by decide +kernel
theorem dX3_mixRound_75 : decode cX3_mixRound 75 = .ok (.iaload, 1) := by decide +kernel
theorem dX3_mixRound_76 : decode cX3_mixRound 76 = .ok (.iload_n 3, 1) := by decide +kernel
theorem dX3_mixRound_77 : decode cX3_mixRound 77 = .ok (.bipush 6, 2) := by decide +kernel
theorem dX3_mixRound_79 : decode cX3_mixRound 79 = .ok (.invokestatic 52, 3) := by decide +kernel
theorem dX3_mixRound_82 : decode cX3_mixRound 82 = .ok (.iload_n 3, 1) := by decide +kernel
theorem dX3_mixRound_83 : decode cX3_mixRound 83 = .ok (.bipush 11, 2) := by decide +kernel
theorem dX3_mixRound_85 : decode cX3_mixRound 85 = .ok (.invokestatic 52, 3) := by decide +kernel
theorem dX3_mixRound_88 : decode cX3_mixRound 88 = .ok (.ixor, 1) := by decide +kernel
theorem dX3_mixRound_89 : decode cX3_mixRound 89 = .ok (.iload_n 3, 1) := by decide +kernel
theorem dX3_mixRound_90 : decode cX3_mixRound 90 = .ok (.bipush 25, 2) := by decide +kernel
theorem dX3_mixRound_92 : decode cX3_mixRound 92 = .ok (.invokestatic 52, 3) := by decide +kernel
theorem dX3_mixRound_95 : decode cX3_mixRound 95 = .ok (.ixor, 1) := by decide +kernel
theorem dX3_mixRound_96 : decode cX3_mixRound 96 = .ok (.iadd, 1) := by decide +kernel
theorem dX3_mixRound_97 : decode cX3_mixRound 97 = .ok (.iload 4, 2) := by decide +kernel
theorem dX3_mixRound_99 : decode cX3_mixRound 99 = .ok (.iadd, 1) := by decide +kernel
theorem dX3_mixRound_100 : decode cX3_mixRound 100 = .ok (.iload_n 1, 1) := by decide +kernel
theorem dX3_mixRound_101 : decode cX3_mixRound 101 = .ok (.iadd, 1) := by decide +kernel
theorem dX3_mixRound_102 : decode cX3_mixRound 102 = .ok (.istore 6, 2) := by decide +kernel
theorem dX3_mixRound_104 : decode cX3_mixRound 104 = .ok (.iload_n 2, 1) := by decide +kernel
theorem dX3_mixRound_105 : decode cX3_mixRound 105 = .ok (.iconst 2, 1) := by decide +kernel
theorem dX3_mixRound_106 : decode cX3_mixRound 106 = .ok (.invokestatic 52, 3) := by decide +kernel
theorem dX3_mixRound_109 : decode cX3_mixRound 109 = .ok (.iload_n 2, 1) := by decide +kernel
theorem dX3_mixRound_110 : decode cX3_mixRound 110 = .ok (.bipush 13, 2) := by decide +kernel
theorem dX3_mixRound_112 : decode cX3_mixRound 112 = .ok (.invokestatic 52, 3) := by decide +kernel
theorem dX3_mixRound_115 : decode cX3_mixRound 115 = .ok (.ixor, 1) := by decide +kernel
theorem dX3_mixRound_116 : decode cX3_mixRound 116 = .ok (.iload_n 2, 1) := by decide +kernel
theorem dX3_mixRound_117 : decode cX3_mixRound 117 = .ok (.bipush 22, 2) := by decide +kernel
theorem dX3_mixRound_119 : decode cX3_mixRound 119 = .ok (.invokestatic 52, 3) := by decide +kernel
theorem dX3_mixRound_122 : decode cX3_mixRound 122 = .ok (.ixor, 1) := by decide +kernel
theorem dX3_mixRound_123 : decode cX3_mixRound 123 = .ok (.iload 5, 2) := by decide +kernel
theorem dX3_mixRound_125 : decode cX3_mixRound 125 = .ok (.iadd, 1) := by decide +kernel
theorem dX3_mixRound_126 : decode cX3_mixRound 126 = .ok (.istore 7, 2) := by decide +kernel
theorem dX3_mixRound_128 : decode cX3_mixRound 128 = .ok (.bipush 7, 2) := by decide +kernel
theorem dX3_mixRound_130 : decode cX3_mixRound 130 = .ok (.istore 8, 2) := by decide +kernel
theorem dX3_mixRound_132 : decode cX3_mixRound 132 = .ok (.iload 8, 2) := by decide +kernel
theorem dX3_mixRound_134 : decode cX3_mixRound 134 = .ok (.ifCond .le 25, 3) := by decide +kernel
theorem dX3_mixRound_137 : decode cX3_mixRound 137 = .ok (.aload_n 0, 1) := by decide +kernel
theorem dX3_mixRound_138 : decode cX3_mixRound 138 = .ok (.getfield 13, 3) := by decide +kernel
theorem dX3_mixRound_141 : decode cX3_mixRound 141 = .ok (.iload 8, 2) := by decide +kernel
theorem dX3_mixRound_143 : decode cX3_mixRound 143 = .ok (.aload_n 0, 1) := by decide +kernel
theorem dX3_mixRound_144 : decode cX3_mixRound 144 = .ok (.getfield 13, 3) := by decide +kernel
theorem dX3_mixRound_147 : decode cX3_mixRound 147 = .ok (.iload 8, 2) := by decide +kernel
theorem dX3_mixRound_149 : decode cX3_mixRound 149 = .ok (.iconst 1, 1) := by decide +kernel
theorem dX3_mixRound_150 : decode cX3_mixRound 150 = .ok (.isub, 1) := by decide +kernel
theorem dX3_mixRound_151 : decode cX3_mixRound 151 = .ok (.iaload, 1) := by decide +kernel
theorem dX3_mixRound_152 : decode cX3_mixRound 152 = .ok (.iastore, 1) := by decide +kernel
theorem dX3_mixRound_153 : decode cX3_mixRound 153 = .ok (.iinc 8 (-1), 3) := by decide +kernel
theorem dX3_mixRound_156 : decode cX3_mixRound 156 = .ok (.goto (-24), 3) := by decide +kernel
theorem dX3_mixRound_159 : decode cX3_mixRound 159 = .ok (.aload_n 0, 1) := by decide +kernel
theorem dX3_mixRound_160 : decode cX3_mixRound 160 = .ok (.getfield 13, 3) := by decide +kernel
theorem dX3_mixRound_163 : decode cX3_mixRound 163 = .ok (.iconst 4, 1) := by decide +kernel
theorem dX3_mixRound_164 : decode cX3_mixRound 164 = .ok (.dup2, 1) := by decide +kernel
theorem dX3_mixRound_165 : decode cX3_mixRound 165 = .ok (.iaload, 1) := by decide +kernel
theorem dX3_mixRound_166 : decode cX3_mixRound 166 = .ok (.iload 6, 2) := by decide +kernel
theorem dX3_mixRound_168 : decode cX3_mixRound 168 = .ok (.iadd, 1) := by decide +kernel
theorem dX3_mixRound_169 : decode cX3_mixRound 169 = .ok (.iastore, 1) := by decide +kernel
theorem dX3_mixRound_170 : decode cX3_mixRound 170 = .ok (.aload_n 0, 1) := by decide +kernel
theorem dX3_mixRound_171 : decode cX3_mixRound 171 = .ok (.getfield 13, 3) := by decide +kernel
theorem dX3_mixRound_174 : decode cX3_mixRound 174 = .ok (.iconst 0, 1) := by decide +kernel
theorem dX3_mixRound_175 : decode cX3_mixRound 175 = .ok (.iload 6, 2) := by decide +kernel
theorem dX3_mixRound_177 : decode cX3_mixRound 177 = .ok (.iload 7, 2) := by decide +kernel
theorem dX3_mixRound_179 : decode cX3_mixRound 179 = .ok (.iadd, 1) := by decide +kernel
theorem dX3_mixRound_180 : decode cX3_mixRound 180 = .ok (.iastore, 1) := by decide +kernel
theorem dX3_mixRound_181 : decode cX3_mixRound 181 = .ok (.return_, 1) := by decide +kernel
theorem hyX3_mixRound : yX3_mixRound.cls ≠ "java/lang/invoke/MethodHandle" ∧ yX3_mixRound.cls ≠ "java/lang/invoke/VarHandle" ∧ (parseMethodDescriptor yX3_mixRound.desc).map (fun d => d.parameters.length) = some 1 := by decide +kernel
abbrev J_X3_mixRound_132 (E : gx_E) (v0 : Nat) (v1 : Int32) (v2 : Int32) (v3 : Int32) (v4 : Int32) (v5 : Int32) (v6 : Int32) (v7 : Int32) (v8 : Int32) (u : gx_S) : Prop := gx_Wc E 9 132 [(0, .ref (ex_ad E v0)), (1, .int v1), (2, .int v2), (3, .int v3), (4, .int v4), (5, .int v5), (6, .int v6), (7, .int v7), (8, .int v8)] [] u
set_option maxHeartbeats 4000000 in
set_option maxRecDepth 100000 in
theorem w_X3_mixRound_0 {E : gx_E} (X : gx_X E cX3_mixRound 9 RX3 none) (hd : 1 ≤ ex_d E) {post : gx_S → Prop} (hQ : ex_Q E = va_Qv post (gx_B (ex_Z E)) (gx_A (ex_Z E))) {u : gx_S} {v0 : Nat} {v1 : Int32} (h : (gx_isO v0 3 ∧ (gx_isR (gx_r u v0 1) .int ∧ vp_in (0 : Int32) (gx_len (gx_r u v0 1)) ∧ (∀ x4 : Int32, x4 = (gx_a u (gx_r u v0 1) (0 : Int32).toNatClampNeg) → (vp_in (4 : Int32) (gx_len (gx_r u v0 1)) ∧ (∀ x6 : Int32, x6 = (gx_a u (gx_r u v0 1) (4 : Int32).toNatClampNeg) → (vp_in (5 : Int32) (gx_len (gx_r u v0 1)) ∧ (vp_in (6 : Int32) (gx_len (gx_r u v0 1)) ∧ (∀ x9 : Int32, x9 = ((x6 &&& (gx_a u (gx_r u v0 1) (5 : Int32).toNatClampNeg)) ^^^ ((x6 ^^^ (-1 : Int32)) &&& (gx_a u (gx_r u v0 1) (6 : Int32).toNatClampNeg))) → (vp_in (1 : Int32) (gx_len (gx_r u v0 1)) ∧ (vp_in (2 : Int32) (gx_len (gx_r u v0 1)) ∧ (vp_in (1 : Int32) (gx_len (gx_r u v0 1)) ∧ (vp_in (2 : Int32) (gx_len (gx_r u v0 1)) ∧ (∀ x14 : Int32, x14 = (((x4 &&& (gx_a u (gx_r u v0 1) (1 : Int32).toNatClampNeg)) ^^^ (x4 &&& (gx_a u (gx_r u v0 1) (2 : Int32).toNatClampNeg))) ^^^ ((gx_a u (gx_r u v0 1) (1 : Int32).toNatClampNeg) &&& (gx_a u (gx_r u v0 1) (2 : Int32).toNatClampNeg))) → (vp_in (7 : Int32) (gx_len (gx_r u v0 1)) ∧ (S_X3_turned u x6 (6 : Int32) (fun (r17 : Int32) (u16 : gx_S) => (S_X3_turned u16 x6 (11 : Int32) (fun (r19 : Int32) (u18 : gx_S) => (S_X3_turned u18 x6 (25 : Int32) (fun (r21 : Int32) (u20 : gx_S) => (∀ x22 : Int32, x22 = ((((gx_a u (gx_r u v0 1) (7 : Int32).toNatClampNeg) + ((r17 ^^^ r19) ^^^ r21)) + x9) + v1) → (S_X3_turned u20 x4 (2 : Int32) (fun (r24 : Int32) (u23 : gx_S) => (S_X3_turned u23 x4 (13 : Int32) (fun (r26 : Int32) (u25 : gx_S) => (S_X3_turned u25 x4 (22 : Int32) (fun (r28 : Int32) (u27 : gx_S) => (∀ x29 : Int32, x29 = (((r24 ^^^ r26) ^^^ r28) + x14) → J_X3_mixRound_132 E v0 v1 x4 x6 x9 x14 x22 x29 (7 : Int32) u27))))))))))))))))))))))))))))) : gx_Wc E 9 0 [(0, .ref (ex_ad E v0)), (1, .int v1)] [] u := by
  refine gx_aload_n X (j := 0) dX3_mixRound_0 rfl rfl ?_
  obtain ⟨k1, h⟩ := h
  refine gx_get X k1 rfl iwX3 1 (by decide) mw_76 (v := .ref (ex_ad E (gx_r u v0 1))) rfl dX3_mixRound_1 ?_
  refine gx_iconst X (v := 0) dX3_mixRound_4 (by decide) ?_
  obtain ⟨k2, h⟩ := h
  obtain ⟨k3, h⟩ := h
  refine gx_iald X k2 k3 dX3_mixRound_5 ?_
  refine gx_nami (fun x4 ex4 => ?_)
  replace h := h x4 ex4
  refine gx_istore_n X (lv' := [(2, .int x4), (0, .ref (ex_ad E v0)), (1, .int v1)]) dX3_mixRound_6 rfl (by decide) rfl ?_
  refine gx_aload_n X (j := 1) dX3_mixRound_7 rfl rfl ?_
  refine gx_get X k1 rfl iwX3 1 (by decide) mw_76 (v := .ref (ex_ad E (gx_r u v0 1))) rfl dX3_mixRound_8 ?_
  refine gx_iconst X (v := 4) dX3_mixRound_11 (by decide) ?_
  obtain ⟨k5, h⟩ := h
  refine gx_iald X k2 k5 dX3_mixRound_12 ?_
  refine gx_nami (fun x6 ex6 => ?_)
  replace h := h x6 ex6
  refine gx_istore_n X (lv' := [(3, .int x6), (2, .int x4), (0, .ref (ex_ad E v0)), (1, .int v1)]) dX3_mixRound_13 rfl (by decide) rfl ?_
  refine gx_iload_n X (j := 0) dX3_mixRound_14 rfl rfl ?_
  refine gx_aload_n X (j := 2) dX3_mixRound_15 rfl rfl ?_
  refine gx_get X k1 rfl iwX3 1 (by decide) mw_76 (v := .ref (ex_ad E (gx_r u v0 1))) rfl dX3_mixRound_16 ?_
  refine gx_iconst X (v := 5) dX3_mixRound_19 (by decide) ?_
  obtain ⟨k7, h⟩ := h
  refine gx_iald X k2 k7 dX3_mixRound_20 ?_
  refine gx_iand X dX3_mixRound_21 ?_
  refine gx_iload_n X (j := 0) dX3_mixRound_22 rfl rfl ?_
  refine gx_iconst X (v := -1) dX3_mixRound_23 (by decide) ?_
  refine gx_ixor X dX3_mixRound_24 ?_
  refine gx_aload_n X (j := 2) dX3_mixRound_25 rfl rfl ?_
  refine gx_get X k1 rfl iwX3 1 (by decide) mw_76 (v := .ref (ex_ad E (gx_r u v0 1))) rfl dX3_mixRound_26 ?_
  refine gx_bipush X (v := 6) dX3_mixRound_29 (by decide) ?_
  obtain ⟨k8, h⟩ := h
  refine gx_iald X k2 k8 dX3_mixRound_31 ?_
  refine gx_iand X dX3_mixRound_32 ?_
  refine gx_ixor X dX3_mixRound_33 ?_
  refine gx_nami (fun x9 ex9 => ?_)
  replace h := h x9 ex9
  refine gx_istore X (lv' := [(4, .int x9), (3, .int x6), (2, .int x4), (0, .ref (ex_ad E v0)), (1, .int v1)]) dX3_mixRound_34 (by decide) rfl ?_
  refine gx_iload_n X (j := 2) dX3_mixRound_36 rfl rfl ?_
  refine gx_aload_n X (j := 3) dX3_mixRound_37 rfl rfl ?_
  refine gx_get X k1 rfl iwX3 1 (by decide) mw_76 (v := .ref (ex_ad E (gx_r u v0 1))) rfl dX3_mixRound_38 ?_
  refine gx_iconst X (v := 1) dX3_mixRound_41 (by decide) ?_
  obtain ⟨k10, h⟩ := h
  refine gx_iald X k2 k10 dX3_mixRound_42 ?_
  refine gx_iand X dX3_mixRound_43 ?_
  refine gx_iload_n X (j := 2) dX3_mixRound_44 rfl rfl ?_
  refine gx_aload_n X (j := 3) dX3_mixRound_45 rfl rfl ?_
  refine gx_get X k1 rfl iwX3 1 (by decide) mw_76 (v := .ref (ex_ad E (gx_r u v0 1))) rfl dX3_mixRound_46 ?_
  refine gx_iconst X (v := 2) dX3_mixRound_49 (by decide) ?_
  obtain ⟨k11, h⟩ := h
  refine gx_iald X k2 k11 dX3_mixRound_50 ?_
  refine gx_iand X dX3_mixRound_51 ?_
  refine gx_ixor X dX3_mixRound_52 ?_
  refine gx_aload_n X (j := 3) dX3_mixRound_53 rfl rfl ?_
  refine gx_get X k1 rfl iwX3 1 (by decide) mw_76 (v := .ref (ex_ad E (gx_r u v0 1))) rfl dX3_mixRound_54 ?_
  refine gx_iconst X (v := 1) dX3_mixRound_57 (by decide) ?_
  obtain ⟨k12, h⟩ := h
  refine gx_iald X k2 k12 dX3_mixRound_58 ?_
  refine gx_aload_n X (j := 3) dX3_mixRound_59 rfl rfl ?_
  refine gx_get X k1 rfl iwX3 1 (by decide) mw_76 (v := .ref (ex_ad E (gx_r u v0 1))) rfl dX3_mixRound_60 ?_
  refine gx_iconst X (v := 2) dX3_mixRound_63 (by decide) ?_
  obtain ⟨k13, h⟩ := h
  refine gx_iald X k2 k13 dX3_mixRound_64 ?_
  refine gx_iand X dX3_mixRound_65 ?_
  refine gx_ixor X dX3_mixRound_66 ?_
  refine gx_nami (fun x14 ex14 => ?_)
  replace h := h x14 ex14
  refine gx_istore X (lv' := [(5, .int x14), (4, .int x9), (3, .int x6), (2, .int x4), (0, .ref (ex_ad E v0)), (1, .int v1)]) dX3_mixRound_67 (by decide) rfl ?_
  refine gx_aload_n X (j := 4) dX3_mixRound_69 rfl rfl ?_
  refine gx_get X k1 rfl iwX3 1 (by decide) mw_76 (v := .ref (ex_ad E (gx_r u v0 1))) rfl dX3_mixRound_70 ?_
  refine gx_bipush X (v := 7) dX3_mixRound_73 (by decide) ?_
  obtain ⟨k15, h⟩ := h
  refine gx_iald X k2 k15 dX3_mixRound_75 ?_
  refine gx_iload_n X (j := 2) dX3_mixRound_76 rfl rfl ?_
  refine gx_bipush X (v := 6) dX3_mixRound_77 (by decide) ?_
  refine gx_ki (gx_rS X (c_X3_turned h) (Nat.le_trans (by decide) hd) (Nat.le_trans (by decide) (Nat.mul_le_mul_left 40 hd)) mw_351 mw_352 mw_5 mw_353 hyX3_turned (As := [.int x6, .int (6 : Int32)]) (rest := [.int (gx_a u (gx_r u v0 1) (7 : Int32).toNatClampNeg)]) rfl rfl (Nat.le_of_ble_eq_true rfl) dX3_mixRound_79) (fun r17 u16 h => ?_)
  refine gx_iload_n X (j := 2) dX3_mixRound_82 rfl rfl ?_
  refine gx_bipush X (v := 11) dX3_mixRound_83 (by decide) ?_
  refine gx_ki (gx_rS X (c_X3_turned h) (Nat.le_trans (by decide) hd) (Nat.le_trans (by decide) (Nat.mul_le_mul_left 40 hd)) mw_351 mw_352 mw_5 mw_353 hyX3_turned (As := [.int x6, .int (11 : Int32)]) (rest := [.int r17, .int (gx_a u (gx_r u v0 1) (7 : Int32).toNatClampNeg)]) rfl rfl (Nat.le_of_ble_eq_true rfl) dX3_mixRound_85) (fun r19 u18 h => ?_)
  refine gx_ixor X dX3_mixRound_88 ?_
  refine gx_iload_n X (j := 2) dX3_mixRound_89 rfl rfl ?_
  refine gx_bipush X (v := 25) dX3_mixRound_90 (by decide) ?_
  refine gx_ki (gx_rS X (c_X3_turned h) (Nat.le_trans (by decide) hd) (Nat.le_trans (by decide) (Nat.mul_le_mul_left 40 hd)) mw_351 mw_352 mw_5 mw_353 hyX3_turned (As := [.int x6, .int (25 : Int32)]) (rest := [.int (r17 ^^^ r19), .int (gx_a u (gx_r u v0 1) (7 : Int32).toNatClampNeg)]) rfl rfl (Nat.le_of_ble_eq_true rfl) dX3_mixRound_92) (fun r21 u20 h => ?_)
  refine gx_ixor X dX3_mixRound_95 ?_
  refine gx_iadd X dX3_mixRound_96 ?_
  refine gx_iload X (j := 1) dX3_mixRound_97 rfl ?_
  refine gx_iadd X dX3_mixRound_99 ?_
  refine gx_iload_n X (j := 5) dX3_mixRound_100 rfl rfl ?_
  refine gx_iadd X dX3_mixRound_101 ?_
  refine gx_nami (fun x22 ex22 => ?_)
  replace h := h x22 ex22
  refine gx_istore X (lv' := [(6, .int x22), (5, .int x14), (4, .int x9), (3, .int x6), (2, .int x4), (0, .ref (ex_ad E v0)), (1, .int v1)]) dX3_mixRound_102 (by decide) rfl ?_
  refine gx_iload_n X (j := 4) dX3_mixRound_104 rfl rfl ?_
  refine gx_iconst X (v := 2) dX3_mixRound_105 (by decide) ?_
  refine gx_ki (gx_rS X (c_X3_turned h) (Nat.le_trans (by decide) hd) (Nat.le_trans (by decide) (Nat.mul_le_mul_left 40 hd)) mw_351 mw_352 mw_5 mw_353 hyX3_turned (As := [.int x4, .int (2 : Int32)]) (rest := []) rfl rfl (Nat.le_of_ble_eq_true rfl) dX3_mixRound_106) (fun r24 u23 h => ?_)
  refine gx_iload_n X (j := 4) dX3_mixRound_109 rfl rfl ?_
  refine gx_bipush X (v := 13) dX3_mixRound_110 (by decide) ?_
  refine gx_ki (gx_rS X (c_X3_turned h) (Nat.le_trans (by decide) hd) (Nat.le_trans (by decide) (Nat.mul_le_mul_left 40 hd)) mw_351 mw_352 mw_5 mw_353 hyX3_turned (As := [.int x4, .int (13 : Int32)]) (rest := [.int r24]) rfl rfl (Nat.le_of_ble_eq_true rfl) dX3_mixRound_112) (fun r26 u25 h => ?_)
  refine gx_ixor X dX3_mixRound_115 ?_
  refine gx_iload_n X (j := 4) dX3_mixRound_116 rfl rfl ?_
  refine gx_bipush X (v := 22) dX3_mixRound_117 (by decide) ?_
  refine gx_ki (gx_rS X (c_X3_turned h) (Nat.le_trans (by decide) hd) (Nat.le_trans (by decide) (Nat.mul_le_mul_left 40 hd)) mw_351 mw_352 mw_5 mw_353 hyX3_turned (As := [.int x4, .int (22 : Int32)]) (rest := [.int (r24 ^^^ r26)]) rfl rfl (Nat.le_of_ble_eq_true rfl) dX3_mixRound_119) (fun r28 u27 h => ?_)
  refine gx_ixor X dX3_mixRound_122 ?_
  refine gx_iload X (j := 1) dX3_mixRound_123 rfl ?_
  refine gx_iadd X dX3_mixRound_125 ?_
  refine gx_nami (fun x29 ex29 => ?_)
  replace h := h x29 ex29
  refine gx_istore X (lv' := [(7, .int x29), (6, .int x22), (5, .int x14), (4, .int x9), (3, .int x6), (2, .int x4), (0, .ref (ex_ad E v0)), (1, .int v1)]) dX3_mixRound_126 (by decide) rfl ?_
  refine gx_bipush X (v := 7) dX3_mixRound_128 (by decide) ?_
  refine gx_istore X (lv' := [(8, .int (7 : Int32)), (7, .int x29), (6, .int x22), (5, .int x14), (4, .int x9), (3, .int x6), (2, .int x4), (0, .ref (ex_ad E v0)), (1, .int v1)]) dX3_mixRound_130 (by decide) rfl ?_
  exact gx_sub [7, 8, 6, 5, 4, 3, 2, 1, 0] rfl h
set_option maxHeartbeats 4000000 in
set_option maxRecDepth 100000 in
theorem w_X3_mixRound_132 {E : gx_E} (X : gx_X E cX3_mixRound 9 RX3 none) (hd : 1 ≤ ex_d E) {post : gx_S → Prop} (hQ : ex_Q E = va_Qv post (gx_B (ex_Z E)) (gx_A (ex_Z E))) {u : gx_S} {v0 : Nat} {v1 : Int32} {v2 : Int32} {v3 : Int32} {v4 : Int32} {v5 : Int32} {v6 : Int32} {v7 : Int32} {v8 : Int32} (h : ((v8 ≤ 0 → (gx_isO v0 3 ∧ (gx_isR (gx_r u v0 1) .int ∧ vp_in (4 : Int32) (gx_len (gx_r u v0 1)) ∧ (gx_isA (gx_r u v0 1) .int ∧ vp_in (4 : Int32) (gx_len (gx_r u v0 1)) ∧ ∀ u6 : gx_S, u6 = gx_pa u (gx_r u v0 1) (upd (gx_a u (gx_r u v0 1)) (4 : Int32).toNatClampNeg ((gx_a u (gx_r u v0 1) (4 : Int32).toNatClampNeg) + v6)) → (gx_isA (gx_r u6 v0 1) .int ∧ vp_in (0 : Int32) (gx_len (gx_r u6 v0 1)) ∧ ∀ u9 : gx_S, u9 = gx_pa u6 (gx_r u6 v0 1) (upd (gx_a u6 (gx_r u6 v0 1)) (0 : Int32).toNatClampNeg (v6 + v7)) → post u9))))) ∧ (¬ v8 ≤ 0 → (gx_isO v0 3 ∧ (gx_isR (gx_r u v0 1) .int ∧ vp_in (v8 - (1 : Int32)) (gx_len (gx_r u v0 1)) ∧ (gx_isA (gx_r u v0 1) .int ∧ vp_in v8 (gx_len (gx_r u v0 1)) ∧ ∀ u15 : gx_S, u15 = gx_pa u (gx_r u v0 1) (upd (gx_a u (gx_r u v0 1)) v8.toNatClampNeg (gx_a u (gx_r u v0 1) (v8 - (1 : Int32)).toNatClampNeg)) → (∀ x16 : Int32, x16 = v8 + (-1) → J_X3_mixRound_132 E v0 v1 v2 v3 v4 v5 v6 v7 x16 u15))))))) : gx_Wc E 9 132 [(0, .ref (ex_ad E v0)), (1, .int v1), (2, .int v2), (3, .int v3), (4, .int v4), (5, .int v5), (6, .int v6), (7, .int v7), (8, .int v8)] [] u := by
  refine gx_iload X (j := 8) dX3_mixRound_132 rfl ?_
  refine gx_if_le X (tgt := 159) dX3_mixRound_134 (by decide) (fun c17 => ?_) (fun c17 => ?_)
  · replace h := h.1 c17
    refine gx_aload_n X (j := 0) dX3_mixRound_159 rfl rfl ?_
    obtain ⟨k1, h⟩ := h
    refine gx_get X k1 rfl iwX3 1 (by decide) mw_76 (v := .ref (ex_ad E (gx_r u v0 1))) rfl dX3_mixRound_160 ?_
    refine gx_iconst X (v := 4) dX3_mixRound_163 (by decide) ?_
    refine gx_dup2_11 X dX3_mixRound_164 rfl rfl ?_
    obtain ⟨k2, h⟩ := h
    obtain ⟨k3, h⟩ := h
    refine gx_iald X k2 k3 dX3_mixRound_165 ?_
    refine gx_iload X (j := 6) dX3_mixRound_166 rfl ?_
    refine gx_iadd X dX3_mixRound_168 ?_
    obtain ⟨k4, h⟩ := h
    obtain ⟨k5, h⟩ := h
    refine gx_iast X k4 k5 dX3_mixRound_169 ?_
    refine gx_nams (fun u6 eu6 => ?_)
    replace h := h u6 eu6
    refine gx_aload_n X (j := 0) dX3_mixRound_170 rfl rfl ?_
    refine gx_get X k1 rfl iwX3 1 (by decide) mw_76 (v := .ref (ex_ad E (gx_r u6 v0 1))) rfl dX3_mixRound_171 ?_
    refine gx_iconst X (v := 0) dX3_mixRound_174 (by decide) ?_
    refine gx_iload X (j := 6) dX3_mixRound_175 rfl ?_
    refine gx_iload X (j := 7) dX3_mixRound_177 rfl ?_
    refine gx_iadd X dX3_mixRound_179 ?_
    obtain ⟨k7, h⟩ := h
    obtain ⟨k8, h⟩ := h
    refine gx_iast X k7 k8 dX3_mixRound_180 ?_
    refine gx_nams (fun u9 eu9 => ?_)
    replace h := h u9 eu9
    exact gx_vret X hQ h dX3_mixRound_181
  · replace h := h.2 c17
    refine gx_aload_n X (j := 0) dX3_mixRound_137 rfl rfl ?_
    obtain ⟨k10, h⟩ := h
    refine gx_get X k10 rfl iwX3 1 (by decide) mw_76 (v := .ref (ex_ad E (gx_r u v0 1))) rfl dX3_mixRound_138 ?_
    refine gx_iload X (j := 8) dX3_mixRound_141 rfl ?_
    refine gx_aload_n X (j := 0) dX3_mixRound_143 rfl rfl ?_
    refine gx_get X k10 rfl iwX3 1 (by decide) mw_76 (v := .ref (ex_ad E (gx_r u v0 1))) rfl dX3_mixRound_144 ?_
    refine gx_iload X (j := 8) dX3_mixRound_147 rfl ?_
    refine gx_iconst X (v := 1) dX3_mixRound_149 (by decide) ?_
    refine gx_isub X dX3_mixRound_150 ?_
    obtain ⟨k11, h⟩ := h
    obtain ⟨k12, h⟩ := h
    refine gx_iald X k11 k12 dX3_mixRound_151 ?_
    obtain ⟨k13, h⟩ := h
    obtain ⟨k14, h⟩ := h
    refine gx_iast X k13 k14 dX3_mixRound_152 ?_
    refine gx_nams (fun u15 eu15 => ?_)
    replace h := h u15 eu15
    obtain ⟨x16, ex16⟩ : ∃ y : Int32, y = v8 + (-1) := ⟨_, rfl⟩
    replace h := h x16 ex16
    refine gx_iinc X (v := x16) (lv' := [(8, .int x16), (0, .ref (ex_ad E v0)), (1, .int v1), (2, .int v2), (3, .int v3), (4, .int v4), (5, .int v5), (6, .int v6), (7, .int v7)]) dX3_mixRound_153 (j := 8) rfl (by rw [ex16]; rfl) (by decide) rfl ?_
    refine gx_goto X (tgt := 132) dX3_mixRound_156 (by decide) ?_
    exact gx_sub [1, 2, 3, 4, 5, 6, 7, 8, 0] rfl h
/-- all is as before but for what some arrays hold -/
def exA (A : List Nat) (u u' : gx_S) : Prop := u'.1 = u.1 ∧ u'.2.1 = u.2.1 ∧ u'.2.2.1 = u.2.2.1 ∧ ∀ a, a ∉ A → gx_a u' a = gx_a u a
theorem exA_rf (A : List Nat) (u : gx_S) : exA A u u := ⟨rfl, rfl, rfl, fun _ _ => rfl⟩
theorem exA_pa {A : List Nat} {a : Nat} (u : gx_S) (f : Nat → Int32) (h : a ∈ A) : exA A u (gx_pa u a f) := ⟨rfl, rfl, rfl, fun b hb => by rw [gx_a_pa, if_neg (fun e => hb (by rw [e]; exact h))]⟩
theorem exA_tr {A : List Nat} {u v w : gx_S} (h : exA A u v) (h2 : exA A v w) : exA A u w := ⟨h2.1.trans h.1, h2.2.1.trans h.2.1, h2.2.2.1.trans h.2.2.1, fun a ha => (h2.2.2.2 a ha).trans (h.2.2.2 a ha)⟩
theorem exA_wk {A B : List Nat} {u v : gx_S} (h : exA A u v) (hs : ∀ a, a ∈ A → a ∈ B) : exA B u v := ⟨h.1, h.2.1, h.2.2.1, fun a ha => h.2.2.2 a (fun e => ha (hs a e))⟩
theorem exA_i {A : List Nat} {u v : gx_S} (h : exA A u v) (o k : Nat) : gx_i v o k = gx_i u o k := congrFun (congrFun h.1 o) k
theorem exA_l {A : List Nat} {u v : gx_S} (h : exA A u v) (o k : Nat) : gx_l v o k = gx_l u o k := congrFun (congrFun h.2.1 o) k
theorem exA_r {A : List Nat} {u v : gx_S} (h : exA A u v) (o k : Nat) : gx_r v o k = gx_r u o k := congrFun (congrFun h.2.2.1 o) k
theorem exA_cfix {A : List Nat} {u v : gx_S} (h : exA A u v) (hf : cfix u) : cfix v := fun o k ho => (exA_r h o k).trans (hf o k ho)
theorem exA_byL {A : List Nat} {u v : gx_S} (h : exA A u v) {o : Nat} {L : List Nat} (hB : byL u o L) (ha : gx_r u o 0 ∉ A) : byL v o L := by
  obtain ⟨h1, h2, h3, h4, h5, h6⟩ := hB
  refine ⟨h1, ?_, ?_, ?_, h5, ?_⟩
  · rw [exA_r h]; exact h2
  · rw [exA_r h]; exact h3
  · rw [exA_i h]; exact h4
  · rw [exA_r h, h.2.2.2 _ ha]; exact h6
theorem nI_or {a b : Nat} (ha : a < 2 ^ 32) (hb : b < 2 ^ 32) : nI a ||| nI b = nI (a ||| b) := by
  apply Int32.toBitVec_inj.mp
  apply BitVec.eq_of_toNat_eq
  show ((nI a).toBitVec ||| (nI b).toBitVec).toNat = _
  rw [BitVec.toNat_or, pk_tn ha, pk_tn hb, pk_tn (Nat.or_lt_two_pow ha hb)]
theorem shl8_or {A b : Nat} (hA : A < 2 ^ 24) (hb : b < 256) : (nI A <<< ((8 : Int32) &&& 31)) ||| nI b = nI (A * 256 + b) := by
  rw [pk_shlN ((8 : Int32) &&& 31) 8 (by decide) (by omega), nI_or (by omega) (by omega), show A * 2 ^ 8 = 2 ^ 8 * A by omega, ← Nat.two_pow_add_eq_or_of_lt (by omega)]
-- the padded row
def pb (T : List Nat) (k : Nat) : Nat := if k < T.length then ch T k else if k = T.length then 128 else 0
theorem pb_lt {T : List Nat} (h : okL T) (k : Nat) : pb T k < 256 := by
  unfold pb
  split
  · exact ch_lt h (by assumption)
  · split <;> omega
theorem i_X3_paddedByte {u : gx_S} {v0 k : Nat} {T : List Nat} {post : Int32 → gx_S → Prop} (hT : byL u v0 T) (hk : k < 2 ^ 30) (h : post (nI (pb T k)) u) : S_X3_paddedByte u v0 (nI k) post := by
  have hT2 := hT.2.2.2.2.1
  unfold pb at h
  refine ⟨hT.1, i_X0_size hT ⟨fun q => i_X0_size hT ⟨fun q2 => ?_, fun q2 => ?_⟩, fun q => i_X0_at hT (by omega) ?_⟩⟩
  · rw [nI_leI (by omega) (by omega)] at q
    rw [if_neg (by omega), if_neg (fun e => q2 (by rw [e]))] at h; exact h
  · rw [nI_leI (by omega) (by omega)] at q
    rw [if_neg (by omega), if_pos ((nI_eq (by omega) (by omega)).mp q2)] at h; exact h
  · rw [nI_leI (by omega) (by omega)] at q
    rw [if_pos (by omega)] at h
    rw [cI_lo (ch_lt hT.2.2.2.2.2.1 (by omega))]; exact h
def pwd (T : List Nat) (i : Nat) : Int32 := nI (((pb T i * 256 + pb T (i + 1)) * 256 + pb T (i + 2)) * 256 + pb T (i + 3))
def S_X3_paddedWord (u : gx_S) (v0 : Nat) (v1 : Int32) (post : Int32 → gx_S → Prop) : Prop := ∃ (T : List Nat) (i : Nat), byL u v0 T ∧ i < 2 ^ 28 ∧ v1 = nI i ∧ post (pwd T i) u
theorem st_X3_paddedWord {E : gx_E} (X : gx_X E cX3_paddedWord 4 RX3 (some .int)) (hd : 2 ≤ ex_d E) {post : Int32 → gx_S → Prop} (hQ : ex_Q E = va_Qi post (gx_B (ex_Z E)) (gx_A (ex_Z E))) {u : gx_S} {v0 i j A : Nat} {T : List Nat} (hT : byL u v0 T) (hi : i < 2 ^ 28) (hj : j < i + 4) (hA : A < 2 ^ 24) (h : J_X3_paddedWord_4 E v0 (nI i) (nI (A * 256 + pb T j)) (nI (j + 1)) u) : J_X3_paddedWord_4 E v0 (nI i) (nI A) (nI j) u := by
  refine w_X3_paddedWord_4 X hd hQ ?_
  rw [show (4 : Int32) = nI 4 from rfl, nI_add]
  refine ⟨fun q => absurd q (nI_ge (by omega) (by omega)), fun _ => i_X3_paddedByte hT (by omega) ?_⟩
  rintro x3 rfl x4 rfl
  rw [shl8_or hA (pb_lt hT.2.2.2.2.2.1 j), nI_1]
  exact h
theorem w_X3_paddedWord {E : gx_E} (X : gx_X E cX3_paddedWord 4 RX3 (some .int)) (hd : 2 ≤ ex_d E) {post : Int32 → gx_S → Prop} (hQ : ex_Q E = va_Qi post (gx_B (ex_Z E)) (gx_A (ex_Z E))) {u : gx_S} {v0 : Nat} {v1 : Int32} (h : S_X3_paddedWord u v0 v1 post) : gx_Wc E 4 0 [(0, .ref (ex_ad E v0)), (1, .int v1)] [] u := by
  obtain ⟨T, i, hT, hi, rfl, h⟩ := h
  have b := pb_lt hT.2.2.2.2.2.1
  have b0 := b i
  have b1 := b (i + 1)
  have b2 := b (i + 1 + 1)
  have b3 := b (i + 1 + 1 + 1)
  refine w_X3_paddedWord_0 X hd hQ ?_
  refine st_X3_paddedWord X hd hQ (A := 0) hT hi (by omega) (by omega) ?_
  refine st_X3_paddedWord X hd hQ hT hi (by omega) (by omega) ?_
  refine st_X3_paddedWord X hd hQ hT hi (by omega) (by omega) ?_
  refine st_X3_paddedWord X hd hQ hT hi (by omega) (by omega) ?_
  refine w_X3_paddedWord_4 X hd hQ ?_
  rw [show (4 : Int32) = nI 4 from rfl, nI_add]
  refine ⟨fun _ => ?_, fun q => absurd (nI_le (by omega) (by omega)) q⟩
  unfold pwd at h
  rw [show ((((0 * 256 + pb T i) * 256 + pb T (i + 1)) * 256 + pb T (i + 1 + 1)) * 256 + pb T (i + 1 + 1 + 1)) = ((pb T i * 256 + pb T (i + 1)) * 256 + pb T (i + 2)) * 256 + pb T (i + 3) by rw [Nat.zero_mul, Nat.zero_add]]
  exact h
theorem c_X3_paddedWord {l : Launch} {Z : gx_Z} {u : gx_S} {v0 : Nat} {v1 : Int32} {post : Int32 → gx_S → Prop} (h : S_X3_paddedWord u v0 v1 post) : Met l yX3_paddedWord (Cond.code yX3_paddedWord cX3_paddedWord 4 (some .int) :: gx_TB) (gx_rm 2) (gx_Pre Z u [.ref (Z.2.1 v0), .int v1]) (va_Qi post (gx_B Z) (gx_A Z)) 0 0 (gx_A Z) := by
  refine gx_met (by decide +kernel) (Nat.le_of_ble_eq_true rfl) ?_
  intro E X hZ hQ hD hL
  subst hZ
  exact w_X3_paddedWord X (Nat.le_of_eq hD.symm) hQ h
-- a round
def tr (x k : Int32) : Int32 := ((x.toUInt32 >>> (k.toUInt32 &&& Int32.toUInt32 31)).toInt32) ||| (x <<< (((32 : Int32) - k) &&& 31))
def fi1 (s : Nat → Int32) (w : Int32) : Int32 := s 7 + ((tr (s 4) 6 ^^^ tr (s 4) 11) ^^^ tr (s 4) 25) + ((s 4 &&& s 5) ^^^ ((s 4 ^^^ (-1 : Int32)) &&& s 6)) + w
def fi2 (s : Nat → Int32) : Int32 := ((tr (s 0) 2 ^^^ tr (s 0) 13) ^^^ tr (s 0) 22) + (((s 0 &&& s 1) ^^^ (s 0 &&& s 2)) ^^^ (s 1 &&& s 2))
def rnd (s : Nat → Int32) (w : Int32) (j : Nat) : Int32 := if j = 0 then fi1 s w + fi2 s else if j = 4 then s 3 + fi1 s w else s (j - 1)
theorem rnd_cg {s t : Nat → Int32} (h : ∀ j, j < 8 → s j = t j) (w : Int32) : ∀ j, j < 8 → rnd s w j = rnd t w j := by
  intro j hj
  unfold rnd fi1 fi2
  rw [h 0 (by omega), h 1 (by omega), h 2 (by omega), h 3 (by omega), h 4 (by omega), h 5 (by omega), h 6 (by omega), h 7 (by omega), h (j - 1) (by omega)]
theorem i_X3_turned {u : gx_S} {x k : Int32} {post : Int32 → gx_S → Prop} (h : post (tr x k) u) : S_X3_turned u x k post := h
def S_X3_mixRound (u : gx_S) (v0 : Nat) (v1 : Int32) (post : gx_S → Prop) : Prop := v0 = 7 ∧ cfix u ∧ ∀ u', exA [15] u u' → (∀ j, j < 8 → gx_a u' 15 j = rnd (gx_a u 15) v1 j) → post u'
theorem isA15 : gx_isA 15 .int := ⟨by decide, rfl⟩
theorem in15 {i : Nat} (h : i < 8) : vp_in (nI i) (gx_len 15) := vp_in_nI (N := 8) h (by omega)
theorem lp_X3_mixRound {E : gx_E} (X : gx_X E cX3_mixRound 9 RX3 none) (hd : 1 ≤ ex_d E) {post : gx_S → Prop} (hQ : ex_Q E = va_Qv post (gx_B (ex_Z E)) (gx_A (ex_Z E))) {v1 v2 v3 v4 v5 : Int32} {s : Nat → Int32} {u0 : gx_S} (hp : ∀ u', exA [15] u0 u' → (∀ j, j < 8 → gx_a u' 15 j = rnd s v1 j) → post u') :
    ∀ (i : Nat) (u : gx_S), i ≤ 7 → cfix u → exA [15] u0 u → (∀ j, j ≤ i → gx_a u 15 j = s j) → (∀ j, i < j → j < 8 → gx_a u 15 j = s (j - 1)) → J_X3_mixRound_132 E 7 v1 v2 v3 v4 v5 (fi1 s v1) (fi2 s) (nI i) u := by
  intro i
  induction i with
  | zero =>
    intro u hi hf hx h1 h2
    have e : gx_r u 7 1 = 15 := hf 7 1 (by decide)
    refine w_X3_mixRound_132 X hd hQ ⟨fun _ => ?_, fun q => absurd (show nI 0 ≤ 0 by decide) q⟩
    rw [e]
    refine ⟨isO_x 7 3 (by decide), isA15.r, in15 (i := 4) (by omega), isA15, in15 (i := 4) (by omega), ?_⟩
    rintro u6 rfl
    rw [gx_r_pa, e]
    refine ⟨isA15, in15 (i := 0) (by omega), ?_⟩
    rintro u9 rfl
    refine hp _ (exA_tr hx (exA_tr (exA_pa _ _ (by simp)) (exA_pa _ _ (by simp)))) (fun j hj => ?_)
    rw [gx_a_pa, if_pos rfl, gx_a_pa, if_pos rfl, show (0 : Int32).toNatClampNeg = 0 from rfl, show (4 : Int32).toNatClampNeg = 4 from rfl]
    unfold rnd
    by_cases e0 : j = 0
    · rw [e0, pk_us, if_pos rfl]
    · rw [pk_un e0, if_neg e0]
      by_cases e4 : j = 4
      · rw [e4, pk_us, if_pos rfl, h2 4 (by omega) (by omega)]
      · rw [pk_un e4, if_neg e4]
        exact h2 j (by omega) hj
  | succ i ih =>
    intro u hi hf hx h1 h2
    have e : gx_r u 7 1 = 15 := hf 7 1 (by decide)
    refine w_X3_mixRound_132 X hd hQ ⟨fun q => absurd q (nI_nle (by omega) (by omega)), fun _ => ?_⟩
    rw [e, show nI (i + 1) - (1 : Int32) = nI i from nI_pred i]
    refine ⟨isO_x 7 3 (by decide), isA15.r, in15 (by omega), isA15, in15 (by omega), ?_⟩
    rintro u15 rfl x16 rfl
    rw [pk_m1]
    refine ih _ (by omega) (fun o k h => hf o k h) (exA_tr hx (exA_pa _ _ (by simp))) (fun j hj => ?_) (fun j hj1 hj2 => ?_)
    · rw [gx_a_pa, if_pos rfl, nI_clamp (by omega), pk_un (by omega)]
      exact h1 j (by omega)
    · rw [gx_a_pa, if_pos rfl, nI_clamp (by omega), nI_clamp (by omega)]
      by_cases ej : j = i + 1
      · rw [ej, pk_us]; exact h1 i (by omega)
      · rw [pk_un ej]; exact h2 j (by omega) hj2
theorem w_X3_mixRound {E : gx_E} (X : gx_X E cX3_mixRound 9 RX3 none) (hd : 1 ≤ ex_d E) {post : gx_S → Prop} (hQ : ex_Q E = va_Qv post (gx_B (ex_Z E)) (gx_A (ex_Z E))) {u : gx_S} {v0 : Nat} {v1 : Int32} (h : S_X3_mixRound u v0 v1 post) : gx_Wc E 9 0 [(0, .ref (ex_ad E v0)), (1, .int v1)] [] u := by
  obtain ⟨rfl, hf, hp⟩ := h
  refine w_X3_mixRound_0 X hd hQ ?_
  rw [show gx_r u 7 1 = 15 from hf 7 1 (by decide)]
  refine ⟨isO_x 7 3 (by decide), isA15.r, in15 (i := 0) (by omega), ?_⟩
  rintro x4 rfl
  refine ⟨in15 (i := 4) (by omega), ?_⟩
  rintro x6 rfl
  refine ⟨in15 (i := 5) (by omega), in15 (i := 6) (by omega), ?_⟩
  rintro x9 rfl
  refine ⟨in15 (i := 1) (by omega), in15 (i := 2) (by omega), in15 (i := 1) (by omega), in15 (i := 2) (by omega), ?_⟩
  rintro x14 rfl
  refine ⟨in15 (i := 7) (by omega), i_X3_turned (i_X3_turned (i_X3_turned ?_))⟩
  rintro x22 rfl
  refine i_X3_turned (i_X3_turned (i_X3_turned ?_))
  rintro x29 rfl
  exact lp_X3_mixRound X hd hQ (s := gx_a u 15) hp 7 u (by omega) hf (exA_rf _ _) (fun j _ => rfl) (fun j h1 h2 => by omega)
theorem c_X3_mixRound {l : Launch} {Z : gx_Z} {u : gx_S} {v0 : Nat} {v1 : Int32} {post : gx_S → Prop} (h : S_X3_mixRound u v0 v1 post) : Met l yX3_mixRound (Cond.code yX3_mixRound cX3_mixRound 9 none :: gx_TB) (gx_rm 1) (gx_Pre Z u [.ref (Z.2.1 v0), .int v1]) (va_Qv post (gx_B Z) (gx_A Z)) 0 0 (gx_A Z) := by
  refine gx_met (by decide +kernel) (Nat.le_of_ble_eq_true rfl) ?_
  intro E X hZ hQ hD hL
  subst hZ
  exact w_X3_mixRound X (Nat.le_of_eq hD.symm) hQ h
end
section
-- PlainSeal$Sha256.fillSchedule(LPlainSeal$Bytes;IZ)V
theorem dX3_fillSchedule_0 : decode cX3_fillSchedule 0 = .ok (.iconst 0, 1) := by decide +kernel
theorem dX3_fillSchedule_1 : decode cX3_fillSchedule 1 = .ok (.istore 4, 2) := by decide +kernel
theorem dX3_fillSchedule_3 : decode cX3_fillSchedule 3 = .ok (.iload 4, 2) := by decide +kernel
theorem dX3_fillSchedule_5 : decode cX3_fillSchedule 5 = .ok (.bipush 16, 2) := by decide +kernel
theorem dX3_fillSchedule_7 : decode cX3_fillSchedule 7 = .ok (.if_icmp .ge 26, 3) := by decide +kernel
theorem dX3_fillSchedule_10 : decode cX3_fillSchedule 10 = .ok (.aload_n 0, 1) := by decide +kernel
theorem dX3_fillSchedule_11 : decode cX3_fillSchedule 11 = .ok (.getfield 16, 3) := by decide +kernel
theorem dX3_fillSchedule_14 : decode cX3_fillSchedule 14 = .ok (.iload 4, 2) := by decide +kernel
theorem dX3_fillSchedule_16 : decode cX3_fillSchedule 16 = .ok (.aload_n 1, 1) := by decide +kernel
theorem dX3_fillSchedule_17 : decode cX3_fillSchedule 17 = .ok (.iload_n 2, 1) := by decide +kernel
theorem dX3_fillSchedule_18 : decode cX3_fillSchedule 18 = .ok (.iconst 4, 1) := by decide +kernel
theorem dX3_fillSchedule_19 : decode cX3_fillSchedule 19 = .ok (.iload 4, 2) := by decide +kernel
theorem dX3_fillSchedule_21 : decode cX3_fillSchedule 21 = .ok (.imul, 1) := by decide +kernel
theorem dX3_fillSchedule_22 : decode cX3_fillSchedule 22 = .ok (.iadd, 1) := by decide +kernel
theorem dX3_fillSchedule_23 : decode cX3_fillSchedule 23 = .ok (.invokestatic 48, 3) := by decide +kernel
theorem dX3_fillSchedule_26 : decode cX3_fillSchedule 26 = .ok (.iastore, 1) := by decide +kernel
theorem dX3_fillSchedule_27 : decode cX3_fillSchedule 27 = .ok (.iinc 4 1, 3) := by decide +kernel
theorem dX3_fillSchedule_30 : decode cX3_fillSchedule 30 = .ok (.goto (-27), 3) := by decide +kernel
theorem dX3_fillSchedule_33 : decode cX3_fillSchedule 33 = .ok (.iload_n 3, 1) := by decide +kernel
theorem dX3_fillSchedule_34 : decode cX3_fillSchedule 34 = .ok (.ifCond .eq 17, 3) := by decide +kernel
theorem dX3_fillSchedule_37 : decode cX3_fillSchedule 37 = .ok (.aload_n 0, 1) := by decide +kernel
theorem dX3_fillSchedule_38 : decode cX3_fillSchedule 38 = .ok (.getfield 16, 3) := by decide +kernel
theorem dX3_fillSchedule_41 : decode cX3_fillSchedule 41 = .ok (.bipush 15, 2) := by decide +kernel
theorem dX3_fillSchedule_43 : decode cX3_fillSchedule 43 = .ok (.aload_n 1, 1) := by decide +kernel
theorem dX3_fillSchedule_44 : decode cX3_fillSchedule 44 = .ok (.invokevirtual 19, 3) := by decide +kernel
theorem dX3_fillSchedule_47 : decode cX3_fillSchedule 47 = .ok (.bipush 8, 2) := by decide +kernel
theorem dX3_fillSchedule_49 : decode cX3_fillSchedule 49 = .ok (.imul, 1) := by decide +kernel
theorem dX3_fillSchedule_50 : decode cX3_fillSchedule 50 = .ok (.iastore, 1) := by decide +kernel
theorem dX3_fillSchedule_51 : decode cX3_fillSchedule 51 = .ok (.bipush 16, 2) := by decide +kernel
theorem dX3_fillSchedule_53 : decode cX3_fillSchedule 53 = .ok (.istore 4, 2) := by decide +kernel
theorem dX3_fillSchedule_55 : decode cX3_fillSchedule 55 = .ok (.iload 4, 2) := by decide +kernel
theorem dX3_fillSchedule_57 : decode cX3_fillSchedule 57 = .ok (.bipush 64, 2) := by decide +kernel
theorem dX3_fillSchedule_59 : decode cX3_fillSchedule 59 = .ok (.if_icmp .ge 111, 3) := by decide +kernel
theorem dX3_fillSchedule_62 : decode cX3_fillSchedule 62 = .ok (.aload_n 0, 1) := by decide +kernel
theorem dX3_fillSchedule_63 : decode cX3_fillSchedule 63 = .ok (.getfield 16, 3) := by decide +kernel
theorem dX3_fillSchedule_66 : decode cX3_fillSchedule 66 = .ok (.iload 4, 2) := by decide +kernel
theorem dX3_fillSchedule_68 : decode cX3_fillSchedule 68 = .ok (.iconst 2, 1) := by decide +kernel
theorem dX3_fillSchedule_69 : decode cX3_fillSchedule 69 = .ok (.isub, 1) := by decide +kernel
theorem dX3_fillSchedule_70 : decode cX3_fillSchedule 70 = .ok (.iaload, 1) := by decide +kernel
theorem dX3_fillSchedule_71 : decode cX3_fillSchedule 71 = .ok (.istore 5, 2) := by decide +kernel
theorem dX3_fillSchedule_73 : decode cX3_fillSchedule 73 = .ok (.aload_n 0, 1) := by decide +kernel
theorem dX3_fillSchedule_74 : decode cX3_fillSchedule 74 = .ok (.getfield 16, 3) := by decide +kernel
theorem dX3_fillSchedule_77 : decode cX3_fillSchedule 77 = .ok (.iload 4, 2) := by decide +kernel
theorem dX3_fillSchedule_79 : decode cX3_fillSchedule 79 = .ok (.bipush 15, 2) := by decide +kernel
theorem dX3_fillSchedule_81 : decode cX3_fillSchedule 81 = .ok (.isub, 1) := by decide +kernel
theorem dX3_fillSchedule_82 : decode cX3_fillSchedule 82 = .ok (.iaload, 1) := by decide +kernel
theorem dX3_fillSchedule_83 : decode cX3_fillSchedule 83 = .ok (.istore 6, 2) := by decide +kernel
theorem dX3_fillSchedule_85 : decode cX3_fillSchedule 85 = .ok (.iload 5, 2) := by decide +kernel
theorem dX3_fillSchedule_87 : decode cX3_fillSchedule 87 = .ok (.bipush 17, 2) := by decide +kernel
theorem dX3_fillSchedule_89 : decode cX3_fillSchedule 89 = .ok (.invokestatic 52, 3) := by decide +kernel
theorem dX3_fillSchedule_92 : decode cX3_fillSchedule 92 = .ok (.iload 5, 2) := by decide +kernel
theorem dX3_fillSchedule_94 : decode cX3_fillSchedule 94 = .ok (.bipush 19, 2) := by decide +kernel
theorem dX3_fillSchedule_96 : decode cX3_fillSchedule 96 = .ok (.invokestatic 52, 3) := by decide +kernel
theorem dX3_fillSchedule_99 : decode cX3_fillSchedule 99 = .ok (.ixor, 1) := by decide +kernel
theorem dX3_fillSchedule_100 : decode cX3_fillSchedule 100 = .ok (.iload 5, 2) := by decide +kernel
theorem dX3_fillSchedule_102 : decode cX3_fillSchedule 102 = .ok (.bipush 10, 2) := by decide +kernel
theorem dX3_fillSchedule_104 : decode cX3_fillSchedule 104 = .ok (.iushr, 1) := by decide +kernel
theorem dX3_fillSchedule_105 : decode cX3_fillSchedule 105 = .ok (.ixor, 1) := by decide +kernel
theorem dX3_fillSchedule_106 : decode cX3_fillSchedule 106 = .ok (.istore 7, 2) := by decide +kernel
theorem dX3_fillSchedule_108 : decode cX3_fillSchedule 108 = .ok (.iload 6, 2) := by decide +kernel
theorem dX3_fillSchedule_110 : decode cX3_fillSchedule 110 = .ok (.bipush 7, 2) := by decide +kernel
theorem dX3_fillSchedule_112 : decode cX3_fillSchedule 112 = .ok (.invokestatic 52, 3) := by decide +kernel
theorem dX3_fillSchedule_115 : decode cX3_fillSchedule 115 = .ok (.iload 6, 2) := by decide +kernel
theorem dX3_fillSchedule_117 : decode cX3_fillSchedule 117 = .ok (.bipush 18, 2) := by decide +kernel
theorem dX3_fillSchedule_119 : decode cX3_fillSchedule 119 = .ok (.invokestatic 52, 3) := by decide +kernel
theorem dX3_fillSchedule_122 : decode cX3_fillSchedule 122 = .ok (.ixor, 1) := by decide +kernel
theorem dX3_fillSchedule_123 : decode cX3_fillSchedule 123 = .ok (.iload 6, 2) := by decide +kernel
theorem dX3_fillSchedule_125 : decode cX3_fillSchedule 125 = .ok (.iconst 3, 1) := by decide +kernel
theorem dX3_fillSchedule_126 : decode cX3_fillSchedule 126 = .ok (.iushr, 1) := by decide +kernel
theorem dX3_fillSchedule_127 : decode cX3_fillSchedule 127 = .ok (.ixor, 1) := by decide +kernel
theorem dX3_fillSchedule_128 : decode cX3_fillSchedule 128 = .ok (.istore 8, 2) := by decide +kernel
theorem dX3_fillSchedule_130 : decode cX3_fillSchedule 130 = .ok (.aload_n 0, 1) := by decide +kernel
theorem dX3_fillSchedule_131 : decode cX3_fillSchedule 131 = .ok (.getfield 16, 3) := by decide +kernel
theorem dX3_fillSchedule_134 : decode cX3_fillSchedule 134 = .ok (.iload 4, 2) := by decide +kernel
theorem dX3_fillSchedule_136 : decode cX3_fillSchedule 136 = .ok (.iload 7, 2) := by decide +kernel
theorem dX3_fillSchedule_138 : decode cX3_fillSchedule 138 = .ok (.aload_n 0, 1) := by decide +kernel
theorem dX3_fillSchedule_139 : decode cX3_fillSchedule 139 = .ok (.getfield 16, 3) := by decide +kernel
theorem dX3_fillSchedule_142 : decode cX3_fillSchedule 142 = .ok (.iload 4, 2) := by decide +kernel
theorem dX3_fillSchedule_144 : decode cX3_fillSchedule 144 = .ok (.bipush 7, 2) := by decide +kernel
theorem dX3_fillSchedule_146 : decode cX3_fillSchedule 146 = .ok (.isub, 1) := by decide +kernel
theorem dX3_fillSchedule_147 : decode cX3_fillSchedule 147 = .ok (.iaload, 1) := by decide +kernel
theorem dX3_fillSchedule_148 : decode cX3_fillSchedule 148 = .ok (.iadd, 1) := by decide +kernel
theorem dX3_fillSchedule_149 : decode cX3_fillSchedule 149 = .ok (.iload 8, 2) := by decide +kernel
theorem dX3_fillSchedule_151 : decode cX3_fillSchedule 151 = .ok (.iadd, 1) := by decide +kernel
theorem dX3_fillSchedule_152 : decode cX3_fillSchedule 152 = .ok (.aload_n 0, 1) := by decide +kernel
theorem dX3_fillSchedule_153 : decode cX3_fillSchedule 153 = .ok (.getfield 16, 3) := by decide +kernel
theorem dX3_fillSchedule_156 : decode cX3_fillSchedule 156 = .ok (.iload 4, 2) := by decide +kernel
theorem dX3_fillSchedule_158 : decode cX3_fillSchedule 158 = .ok (.bipush 16, 2) := by decide +kernel
theorem dX3_fillSchedule_160 : decode cX3_fillSchedule 160 = .ok (.isub, 1) := by decide +kernel
theorem dX3_fillSchedule_161 : decode cX3_fillSchedule 161 = .ok (.iaload, 1) := by decide +kernel
theorem dX3_fillSchedule_162 : decode cX3_fillSchedule 162 = .ok (.iadd, 1) := by decide +kernel
theorem dX3_fillSchedule_163 : decode cX3_fillSchedule 163 = .ok (.iastore, 1) := by decide +kernel
theorem dX3_fillSchedule_164 : decode cX3_fillSchedule 164 = .ok (.iinc 4 1, 3) := by decide +kernel
theorem dX3_fillSchedule_167 : decode cX3_fillSchedule 167 = .ok (.goto (-112), 3) := by decide +kernel
theorem dX3_fillSchedule_170 : decode cX3_fillSchedule 170 = .ok (.return_, 1) := by decide +kernel
theorem hyX3_fillSchedule : yX3_fillSchedule.cls ≠ "java/lang/invoke/MethodHandle" ∧ yX3_fillSchedule.cls ≠ "java/lang/invoke/VarHandle" ∧ (parseMethodDescriptor yX3_fillSchedule.desc).map (fun d => d.parameters.length) = some 3 := by decide +kernel
abbrev J_X3_fillSchedule_3 (E : gx_E) (v0 : Nat) (v1 : Nat) (v2 : Int32) (v3 : Int32) (v4 : Int32) (u : gx_S) : Prop := gx_Wc E 9 3 [(0, .ref (ex_ad E v0)), (1, .ref (ex_ad E v1)), (2, .int v2), (3, .int v3), (4, .int v4)] [] u
abbrev J_X3_fillSchedule_55 (E : gx_E) (v0 : Nat) (v1 : Nat) (v2 : Int32) (v3 : Int32) (v4 : Int32) (u : gx_S) : Prop := gx_Wc E 9 55 [(0, .ref (ex_ad E v0)), (1, .ref (ex_ad E v1)), (2, .int v2), (3, .int v3), (4, .int v4)] [] u
set_option maxHeartbeats 4000000 in
set_option maxRecDepth 100000 in
theorem w_X3_fillSchedule_0 {E : gx_E} (X : gx_X E cX3_fillSchedule 9 RX3 none) (hd : 3 ≤ ex_d E) {post : gx_S → Prop} (hQ : ex_Q E = va_Qv post (gx_B (ex_Z E)) (gx_A (ex_Z E))) {u : gx_S} {v0 : Nat} {v1 : Nat} {v2 : Int32} {v3 : Int32} (h : J_X3_fillSchedule_3 E v0 v1 v2 v3 (0 : Int32) u) : gx_Wc E 9 0 [(0, .ref (ex_ad E v0)), (1, .ref (ex_ad E v1)), (2, .int v2), (3, .int v3)] [] u := by
  refine gx_iconst X (v := 0) dX3_fillSchedule_0 (by decide) ?_
  refine gx_istore X (lv' := [(4, .int (0 : Int32)), (0, .ref (ex_ad E v0)), (1, .ref (ex_ad E v1)), (2, .int v2), (3, .int v3)]) dX3_fillSchedule_1 (by decide) rfl ?_
  exact gx_sub [1, 2, 3, 4, 0] rfl h
set_option maxHeartbeats 4000000 in
set_option maxRecDepth 100000 in
theorem w_X3_fillSchedule_3 {E : gx_E} (X : gx_X E cX3_fillSchedule 9 RX3 none) (hd : 3 ≤ ex_d E) {post : gx_S → Prop} (hQ : ex_Q E = va_Qv post (gx_B (ex_Z E)) (gx_A (ex_Z E))) {u : gx_S} {v0 : Nat} {v1 : Nat} {v2 : Int32} {v3 : Int32} {v4 : Int32} (h : (((16 : Int32) ≤ v4 → ((v3 = 0 → J_X3_fillSchedule_55 E v0 v1 v2 v3 (16 : Int32) u) ∧ (¬ v3 = 0 → (gx_isO v0 3 ∧ (gx_isO v1 0 ∧ S_X0_size u v1 (fun (r4 : Int32) (u3 : gx_S) => (gx_isA (gx_r u v0 2) .int ∧ vp_in (15 : Int32) (gx_len (gx_r u v0 2)) ∧ ∀ u7 : gx_S, u7 = gx_pa u3 (gx_r u v0 2) (upd (gx_a u3 (gx_r u v0 2)) (15 : Int32).toNatClampNeg (r4 * (8 : Int32))) → J_X3_fillSchedule_55 E v0 v1 v2 v3 (16 : Int32) u7))))))) ∧ (¬ (16 : Int32) ≤ v4 → (gx_isO v0 3 ∧ (S_X3_paddedWord u v1 (v2 + ((4 : Int32) * v4)) (fun (r11 : Int32) (u10 : gx_S) => (gx_isA (gx_r u v0 2) .int ∧ vp_in v4 (gx_len (gx_r u v0 2)) ∧ ∀ u14 : gx_S, u14 = gx_pa u10 (gx_r u v0 2) (upd (gx_a u10 (gx_r u v0 2)) v4.toNatClampNeg r11) → (∀ x15 : Int32, x15 = v4 + 1 → J_X3_fillSchedule_3 E v0 v1 v2 v3 x15 u14)))))))) : gx_Wc E 9 3 [(0, .ref (ex_ad E v0)), (1, .ref (ex_ad E v1)), (2, .int v2), (3, .int v3), (4, .int v4)] [] u := by
  refine gx_iload X (j := 4) dX3_fillSchedule_3 rfl ?_
  refine gx_bipush X (v := 16) dX3_fillSchedule_5 (by decide) ?_
  refine gx_icmp_ge X (tgt := 33) dX3_fillSchedule_7 (by decide) (fun c16 => ?_) (fun c16 => ?_)
  · replace h := h.1 c16
    refine gx_iload_n X (j := 3) dX3_fillSchedule_33 rfl rfl ?_
    refine gx_if_eq X (tgt := 51) dX3_fillSchedule_34 (by decide) (fun c8 => ?_) (fun c8 => ?_)
    · replace h := h.1 c8
      refine gx_bipush X (v := 16) dX3_fillSchedule_51 (by decide) ?_
      refine gx_istore X (lv' := [(4, .int (16 : Int32)), (0, .ref (ex_ad E v0)), (1, .ref (ex_ad E v1)), (2, .int v2), (3, .int v3)]) dX3_fillSchedule_53 (by decide) rfl ?_
      exact gx_sub [1, 2, 3, 4, 0] rfl h
    · replace h := h.2 c8
      refine gx_aload_n X (j := 0) dX3_fillSchedule_37 rfl rfl ?_
      obtain ⟨k1, h⟩ := h
      refine gx_get X k1 rfl iwX3 2 (by decide) mw_77 (v := .ref (ex_ad E (gx_r u v0 2))) rfl dX3_fillSchedule_38 ?_
      refine gx_bipush X (v := 15) dX3_fillSchedule_41 (by decide) ?_
      refine gx_aload_n X (j := 1) dX3_fillSchedule_43 rfl rfl ?_
      obtain ⟨k2, h⟩ := h
      refine gx_ki (gx_rV X (c_X0_size h) (Nat.le_trans (by decide) hd) (Nat.le_trans (by decide) (Nat.mul_le_mul_left 40 hd)) k2 rfl mw_334 mw_128 mw_129 mw_2 mw_130 hyX0_size (As := []) (rest := [.int (15 : Int32), .ref (ex_ad E (gx_r u v0 2))]) rfl rfl (Nat.le_of_ble_eq_true rfl) dX3_fillSchedule_44) (fun r4 u3 h => ?_)
      refine gx_bipush X (v := 8) dX3_fillSchedule_47 (by decide) ?_
      refine gx_imul X dX3_fillSchedule_49 ?_
      obtain ⟨k5, h⟩ := h
      obtain ⟨k6, h⟩ := h
      refine gx_iast X k5 k6 dX3_fillSchedule_50 ?_
      refine gx_nams (fun u7 eu7 => ?_)
      replace h := h u7 eu7
      refine gx_bipush X (v := 16) dX3_fillSchedule_51 (by decide) ?_
      refine gx_istore X (lv' := [(4, .int (16 : Int32)), (0, .ref (ex_ad E v0)), (1, .ref (ex_ad E v1)), (2, .int v2), (3, .int v3)]) dX3_fillSchedule_53 (by decide) rfl ?_
      exact gx_sub [1, 2, 3, 4, 0] rfl h
  · replace h := h.2 c16
    refine gx_aload_n X (j := 0) dX3_fillSchedule_10 rfl rfl ?_
    obtain ⟨k9, h⟩ := h
    refine gx_get X k9 rfl iwX3 2 (by decide) mw_77 (v := .ref (ex_ad E (gx_r u v0 2))) rfl dX3_fillSchedule_11 ?_
    refine gx_iload X (j := 4) dX3_fillSchedule_14 rfl ?_
    refine gx_aload_n X (j := 1) dX3_fillSchedule_16 rfl rfl ?_
    refine gx_iload_n X (j := 2) dX3_fillSchedule_17 rfl rfl ?_
    refine gx_iconst X (v := 4) dX3_fillSchedule_18 (by decide) ?_
    refine gx_iload X (j := 4) dX3_fillSchedule_19 rfl ?_
    refine gx_imul X dX3_fillSchedule_21 ?_
    refine gx_iadd X dX3_fillSchedule_22 ?_
    refine gx_ki (gx_rS X (c_X3_paddedWord h) (Nat.le_trans (by decide) hd) (Nat.le_trans (by decide) (Nat.mul_le_mul_left 40 hd)) mw_344 mw_345 mw_5 mw_346 hyX3_paddedWord (As := [.ref (ex_ad E v1), .int (v2 + ((4 : Int32) * v4))]) (rest := [.int v4, .ref (ex_ad E (gx_r u v0 2))]) rfl rfl (Nat.le_of_ble_eq_true rfl) dX3_fillSchedule_23) (fun r11 u10 h => ?_)
    obtain ⟨k12, h⟩ := h
    obtain ⟨k13, h⟩ := h
    refine gx_iast X k12 k13 dX3_fillSchedule_26 ?_
    refine gx_nams (fun u14 eu14 => ?_)
    replace h := h u14 eu14
    obtain ⟨x15, ex15⟩ : ∃ y : Int32, y = v4 + 1 := ⟨_, rfl⟩
    replace h := h x15 ex15
    refine gx_iinc X (v := x15) (lv' := [(4, .int x15), (0, .ref (ex_ad E v0)), (1, .ref (ex_ad E v1)), (2, .int v2), (3, .int v3)]) dX3_fillSchedule_27 (j := 4) rfl (by rw [ex15]; rfl) (by decide) rfl ?_
    refine gx_goto X (tgt := 3) dX3_fillSchedule_30 (by decide) ?_
    exact gx_sub [1, 2, 3, 4, 0] rfl h
set_option maxHeartbeats 4000000 in
set_option maxRecDepth 100000 in
theorem w_X3_fillSchedule_55 {E : gx_E} (X : gx_X E cX3_fillSchedule 9 RX3 none) (hd : 3 ≤ ex_d E) {post : gx_S → Prop} (hQ : ex_Q E = va_Qv post (gx_B (ex_Z E)) (gx_A (ex_Z E))) {u : gx_S} {v0 : Nat} {v1 : Nat} {v2 : Int32} {v3 : Int32} {v4 : Int32} (h : (((64 : Int32) ≤ v4 → post u) ∧ (¬ (64 : Int32) ≤ v4 → (gx_isO v0 3 ∧ (gx_isR (gx_r u v0 2) .int ∧ vp_in (v4 - (2 : Int32)) (gx_len (gx_r u v0 2)) ∧ (∀ x4 : Int32, x4 = (gx_a u (gx_r u v0 2) (v4 - (2 : Int32)).toNatClampNeg) → (vp_in (v4 - (15 : Int32)) (gx_len (gx_r u v0 2)) ∧ (∀ x6 : Int32, x6 = (gx_a u (gx_r u v0 2) (v4 - (15 : Int32)).toNatClampNeg) → (S_X3_turned u x4 (17 : Int32) (fun (r8 : Int32) (u7 : gx_S) => (S_X3_turned u7 x4 (19 : Int32) (fun (r10 : Int32) (u9 : gx_S) => (∀ x11 : Int32, x11 = ((r8 ^^^ r10) ^^^ ((x4.toUInt32 >>> ((10 : Int32).toUInt32 &&& Int32.toUInt32 31)).toInt32)) → (S_X3_turned u9 x6 (7 : Int32) (fun (r13 : Int32) (u12 : gx_S) => (S_X3_turned u12 x6 (18 : Int32) (fun (r15 : Int32) (u14 : gx_S) => (∀ x16 : Int32, x16 = ((r13 ^^^ r15) ^^^ ((x6.toUInt32 >>> ((3 : Int32).toUInt32 &&& Int32.toUInt32 31)).toInt32)) → (gx_isR (gx_r u14 v0 2) .int ∧ vp_in (v4 - (7 : Int32)) (gx_len (gx_r u14 v0 2)) ∧ (vp_in (v4 - (16 : Int32)) (gx_len (gx_r u14 v0 2)) ∧ (gx_isA (gx_r u14 v0 2) .int ∧ vp_in v4 (gx_len (gx_r u14 v0 2)) ∧ ∀ u22 : gx_S, u22 = gx_pa u14 (gx_r u14 v0 2) (upd (gx_a u14 (gx_r u14 v0 2)) v4.toNatClampNeg (((x11 + (gx_a u14 (gx_r u14 v0 2) (v4 - (7 : Int32)).toNatClampNeg)) + x16) + (gx_a u14 (gx_r u14 v0 2) (v4 - (16 : Int32)).toNatClampNeg))) → (∀ x23 : Int32, x23 = v4 + 1 → J_X3_fillSchedule_55 E v0 v1 v2 v3 x23 u22)))))))))))))))))))))) : gx_Wc E 9 55 [(0, .ref (ex_ad E v0)), (1, .ref (ex_ad E v1)), (2, .int v2), (3, .int v3), (4, .int v4)] [] u := by
  refine gx_iload X (j := 4) dX3_fillSchedule_55 rfl ?_
  refine gx_bipush X (v := 64) dX3_fillSchedule_57 (by decide) ?_
  refine gx_icmp_ge X (tgt := 170) dX3_fillSchedule_59 (by decide) (fun c24 => ?_) (fun c24 => ?_)
  · replace h := h.1 c24
    exact gx_vret X hQ h dX3_fillSchedule_170
  · replace h := h.2 c24
    refine gx_aload_n X (j := 0) dX3_fillSchedule_62 rfl rfl ?_
    obtain ⟨k1, h⟩ := h
    refine gx_get X k1 rfl iwX3 2 (by decide) mw_77 (v := .ref (ex_ad E (gx_r u v0 2))) rfl dX3_fillSchedule_63 ?_
    refine gx_iload X (j := 4) dX3_fillSchedule_66 rfl ?_
    refine gx_iconst X (v := 2) dX3_fillSchedule_68 (by decide) ?_
    refine gx_isub X dX3_fillSchedule_69 ?_
    obtain ⟨k2, h⟩ := h
    obtain ⟨k3, h⟩ := h
    refine gx_iald X k2 k3 dX3_fillSchedule_70 ?_
    refine gx_nami (fun x4 ex4 => ?_)
    replace h := h x4 ex4
    refine gx_istore X (lv' := [(5, .int x4), (0, .ref (ex_ad E v0)), (1, .ref (ex_ad E v1)), (2, .int v2), (3, .int v3), (4, .int v4)]) dX3_fillSchedule_71 (by decide) rfl ?_
    refine gx_aload_n X (j := 1) dX3_fillSchedule_73 rfl rfl ?_
    refine gx_get X k1 rfl iwX3 2 (by decide) mw_77 (v := .ref (ex_ad E (gx_r u v0 2))) rfl dX3_fillSchedule_74 ?_
    refine gx_iload X (j := 5) dX3_fillSchedule_77 rfl ?_
    refine gx_bipush X (v := 15) dX3_fillSchedule_79 (by decide) ?_
    refine gx_isub X dX3_fillSchedule_81 ?_
    obtain ⟨k5, h⟩ := h
    refine gx_iald X k2 k5 dX3_fillSchedule_82 ?_
    refine gx_nami (fun x6 ex6 => ?_)
    replace h := h x6 ex6
    refine gx_istore X (lv' := [(6, .int x6), (5, .int x4), (0, .ref (ex_ad E v0)), (1, .ref (ex_ad E v1)), (2, .int v2), (3, .int v3), (4, .int v4)]) dX3_fillSchedule_83 (by decide) rfl ?_
    refine gx_iload X (j := 1) dX3_fillSchedule_85 rfl ?_
    refine gx_bipush X (v := 17) dX3_fillSchedule_87 (by decide) ?_
    refine gx_ki (gx_rS X (c_X3_turned h) (Nat.le_trans (by decide) hd) (Nat.le_trans (by decide) (Nat.mul_le_mul_left 40 hd)) mw_351 mw_352 mw_5 mw_353 hyX3_turned (As := [.int x4, .int (17 : Int32)]) (rest := []) rfl rfl (Nat.le_of_ble_eq_true rfl) dX3_fillSchedule_89) (fun r8 u7 h => ?_)
    refine gx_iload X (j := 1) dX3_fillSchedule_92 rfl ?_
    refine gx_bipush X (v := 19) dX3_fillSchedule_94 (by decide) ?_
    refine gx_ki (gx_rS X (c_X3_turned h) (Nat.le_trans (by decide) hd) (Nat.le_trans (by decide) (Nat.mul_le_mul_left 40 hd)) mw_351 mw_352 mw_5 mw_353 hyX3_turned (As := [.int x4, .int (19 : Int32)]) (rest := [.int r8]) rfl rfl (Nat.le_of_ble_eq_true rfl) dX3_fillSchedule_96) (fun r10 u9 h => ?_)
    refine gx_ixor X dX3_fillSchedule_99 ?_
    refine gx_iload X (j := 1) dX3_fillSchedule_100 rfl ?_
    refine gx_bipush X (v := 10) dX3_fillSchedule_102 (by decide) ?_
    refine gx_iushr X (v := (x4.toUInt32 >>> ((10 : Int32).toUInt32 &&& Int32.toUInt32 31)).toInt32) dX3_fillSchedule_104 rfl ?_
    refine gx_ixor X dX3_fillSchedule_105 ?_
    refine gx_nami (fun x11 ex11 => ?_)
    replace h := h x11 ex11
    refine gx_istore X (lv' := [(7, .int x11), (6, .int x6), (5, .int x4), (0, .ref (ex_ad E v0)), (1, .ref (ex_ad E v1)), (2, .int v2), (3, .int v3), (4, .int v4)]) dX3_fillSchedule_106 (by decide) rfl ?_
    refine gx_iload X (j := 1) dX3_fillSchedule_108 rfl ?_
    refine gx_bipush X (v := 7) dX3_fillSchedule_110 (by decide) ?_
    refine gx_ki (gx_rS X (c_X3_turned h) (Nat.le_trans (by decide) hd) (Nat.le_trans (by decide) (Nat.mul_le_mul_left 40 hd)) mw_351 mw_352 mw_5 mw_353 hyX3_turned (As := [.int x6, .int (7 : Int32)]) (rest := []) rfl rfl (Nat.le_of_ble_eq_true rfl) dX3_fillSchedule_112) (fun r13 u12 h => ?_)
    refine gx_iload X (j := 1) dX3_fillSchedule_115 rfl ?_
    refine gx_bipush X (v := 18) dX3_fillSchedule_117 (by decide) ?_
    refine gx_ki (gx_rS X (c_X3_turned h) (Nat.le_trans (by decide) hd) (Nat.le_trans (by decide) (Nat.mul_le_mul_left 40 hd)) mw_351 mw_352 mw_5 mw_353 hyX3_turned (As := [.int x6, .int (18 : Int32)]) (rest := [.int r13]) rfl rfl (Nat.le_of_ble_eq_true rfl) dX3_fillSchedule_119) (fun r15 u14 h => ?_)
    refine gx_ixor X dX3_fillSchedule_122 ?_
    refine gx_iload X (j := 1) dX3_fillSchedule_123 rfl ?_
    refine gx_iconst X (v := 3) dX3_fillSchedule_125 (by decide) ?_
    refine gx_iushr X (v := (x6.toUInt32 >>> ((3 : Int32).toUInt32 &&& Int32.toUInt32 31)).toInt32) dX3_fillSchedule_126 rfl ?_
    refine gx_ixor X dX3_fillSchedule_127 ?_
    refine gx_nami (fun x16 ex16 => ?_)
    replace h := h x16 ex16
    refine gx_istore X (lv' := [(8, .int x16), (7, .int x11), (6, .int x6), (5, .int x4), (0, .ref (ex_ad E v0)), (1, .ref (ex_ad E v1)), (2, .int v2), (3, .int v3), (4, .int v4)]) dX3_fillSchedule_128 (by decide) rfl ?_
    refine gx_aload_n X (j := 4) dX3_fillSchedule_130 rfl rfl ?_
    refine gx_get X k1 rfl iwX3 2 (by decide) mw_77 (v := .ref (ex_ad E (gx_r u14 v0 2))) rfl dX3_fillSchedule_131 ?_
    refine gx_iload X (j := 8) dX3_fillSchedule_134 rfl ?_
    refine gx_iload X (j := 1) dX3_fillSchedule_136 rfl ?_
    refine gx_aload_n X (j := 4) dX3_fillSchedule_138 rfl rfl ?_
    refine gx_get X k1 rfl iwX3 2 (by decide) mw_77 (v := .ref (ex_ad E (gx_r u14 v0 2))) rfl dX3_fillSchedule_139 ?_
    refine gx_iload X (j := 8) dX3_fillSchedule_142 rfl ?_
    refine gx_bipush X (v := 7) dX3_fillSchedule_144 (by decide) ?_
    refine gx_isub X dX3_fillSchedule_146 ?_
    obtain ⟨k17, h⟩ := h
    obtain ⟨k18, h⟩ := h
    refine gx_iald X k17 k18 dX3_fillSchedule_147 ?_
    refine gx_iadd X dX3_fillSchedule_148 ?_
    refine gx_iload X (j := 0) dX3_fillSchedule_149 rfl ?_
    refine gx_iadd X dX3_fillSchedule_151 ?_
    refine gx_aload_n X (j := 4) dX3_fillSchedule_152 rfl rfl ?_
    refine gx_get X k1 rfl iwX3 2 (by decide) mw_77 (v := .ref (ex_ad E (gx_r u14 v0 2))) rfl dX3_fillSchedule_153 ?_
    refine gx_iload X (j := 8) dX3_fillSchedule_156 rfl ?_
    refine gx_bipush X (v := 16) dX3_fillSchedule_158 (by decide) ?_
    refine gx_isub X dX3_fillSchedule_160 ?_
    obtain ⟨k19, h⟩ := h
    refine gx_iald X k17 k19 dX3_fillSchedule_161 ?_
    refine gx_iadd X dX3_fillSchedule_162 ?_
    obtain ⟨k20, h⟩ := h
    obtain ⟨k21, h⟩ := h
    refine gx_iast X k20 k21 dX3_fillSchedule_163 ?_
    refine gx_nams (fun u22 eu22 => ?_)
    replace h := h u22 eu22
    obtain ⟨x23, ex23⟩ : ∃ y : Int32, y = v4 + 1 := ⟨_, rfl⟩
    replace h := h x23 ex23
    refine gx_iinc X (v := x23) (lv' := [(4, .int x23), (8, .int x16), (7, .int x11), (6, .int x6), (5, .int x4), (0, .ref (ex_ad E v0)), (1, .ref (ex_ad E v1)), (2, .int v2), (3, .int v3)]) dX3_fillSchedule_164 (j := 8) rfl (by rw [ex23]; rfl) (by decide) rfl ?_
    refine gx_goto X (tgt := 55) dX3_fillSchedule_167 (by decide) ?_
    exact gx_sub [5, 6, 7, 8, 0] rfl h
-- PlainSeal$Sha256.mixBlock()V
theorem dX3_mixBlock_0 : decode cX3_mixBlock 0 = .ok (.aload_n 0, 1) := by decide +kernel
theorem dX3_mixBlock_1 : decode cX3_mixBlock 1 = .ok (.getfield 9, 3) := by decide +kernel
theorem dX3_mixBlock_4 : decode cX3_mixBlock 4 = .ok (.iconst 0, 1) := by decide +kernel
theorem dX3_mixBlock_5 : decode cX3_mixBlock 5 = .ok (.aload_n 0, 1) := by decide +kernel
theorem dX3_mixBlock_6 : decode cX3_mixBlock 6 = .ok (.getfield 13, 3) := by decide +kernel
theorem dX3_mixBlock_9 : decode cX3_mixBlock 9 = .ok (.iconst 0, 1) := by decide +kernel
theorem dX3_mixBlock_10 : decode cX3_mixBlock 10 = .ok (.bipush 8, 2) := by decide +kernel
theorem dX3_mixBlock_12 : decode cX3_mixBlock 12 = .ok (.invokestatic 28, 3) := by decide +kernel
theorem dX3_mixBlock_15 : decode cX3_mixBlock 15 = .ok (.iconst 0, 1) := by decide +kernel
theorem dX3_mixBlock_16 : decode cX3_mixBlock 16 = .ok (.istore_n 1, 1) := by decide +kernel
theorem dX3_mixBlock_17 : decode cX3_mixBlock 17 = .ok (.iload_n 1, 1) := by decide +kernel
theorem dX3_mixBlock_18 : decode cX3_mixBlock 18 = .ok (.bipush 64, 2) := by decide +kernel
theorem dX3_mixBlock_20 : decode cX3_mixBlock 20 = .ok (.if_icmp .ge 25, 3) := by decide +kernel
theorem dX3_mixBlock_23 : decode cX3_mixBlock 23 = .ok (.aload_n 0, 1) := by decide +kernel
theorem dX3_mixBlock_24 : decode cX3_mixBlock 24 = .ok (.getstatic 63, 3) := by decide +kernel
theorem dX3_mixBlock_27 : decode cX3_mixBlock 27 = .ok (.iload_n 1, 1) := by decide +kernel
theorem dX3_mixBlock_28 : decode cX3_mixBlock 28 = .ok (.iaload, 1) := by decide +kernel
theorem dX3_mixBlock_29 : decode cX3_mixBlock 29 = .ok (.aload_n 0, 1) := by decide +kernel
theorem dX3_mixBlock_30 : decode cX3_mixBlock 30 = .ok (.getfield 16, 3) := by decide +kernel
theorem dX3_mixBlock_33 : decode cX3_mixBlock 33 = .ok (.iload_n 1, 1) := by decide +kernel
theorem dX3_mixBlock_34 : decode cX3_mixBlock 34 = .ok (.iaload, 1) := by decide +kernel
theorem dX3_mixBlock_35 : decode cX3_mixBlock 35 = .ok (.iadd, 1) := by decide +kernel
theorem dX3_mixBlock_36 : decode cX3_mixBlock 36 = .ok (.invokevirtual 66, 3) := by decide +kernel
theorem dX3_mixBlock_39 : decode cX3_mixBlock 39 = .ok (.iinc 1 1, 3) := by decide +kernel
theorem dX3_mixBlock_42 : decode cX3_mixBlock 42 = .ok (.goto (-25), 3) := by decide +kernel
theorem dX3_mixBlock_45 : decode cX3_mixBlock 45 = .ok (.iconst 0, 1) := by decide +kernel
theorem dX3_mixBlock_46 : decode cX3_mixBlock 46 = .ok (.istore_n 1, 1) := by decide +kernel
theorem dX3_mixBlock_47 : decode cX3_mixBlock 47 = .ok (.iload_n 1, 1) := by decide +kernel
theorem dX3_mixBlock_48 : decode cX3_mixBlock 48 = .ok (.bipush 8, 2) := by decide +kernel
theorem dX3_mixBlock_50 : decode cX3_mixBlock 50 = .ok (.if_icmp .ge 24, 3) := by decide +kernel
theorem dX3_mixBlock_53 : decode cX3_mixBlock 53 = .ok (.aload_n 0, 1) := by decide +kernel
theorem dX3_mixBlock_54 : decode cX3_mixBlock 54 = .ok (.getfield 9, 3) := by decide +kernel
theorem dX3_mixBlock_57 : decode cX3_mixBlock 57 = .ok (.iload_n 1, 1) := by decide +kernel
theorem dX3_mixBlock_58 : decode cX3_mixBlock 58 = .ok (.dup2, 1) := by decide +kernel
theorem dX3_mixBlock_59 : decode cX3_mixBlock 59 = .ok (.iaload, 1) := by decide +kernel
theorem dX3_mixBlock_60 : decode cX3_mixBlock 60 = .ok (.aload_n 0, 1) := by decide +kernel
theorem dX3_mixBlock_61 : decode cX3_mixBlock 61 = .ok (.getfield 13, 3) := by decide +kernel
theorem dX3_mixBlock_64 : decode cX3_mixBlock 64 = .ok (.iload_n 1, 1) := by decide +kernel
theorem dX3_mixBlock_65 : decode cX3_mixBlock 65 = .ok (.iaload, 1) := by decide +kernel
theorem dX3_mixBlock_66 : decode cX3_mixBlock 66 = .ok (.iadd, 1) := by decide +kernel
theorem dX3_mixBlock_67 : decode cX3_mixBlock 67 = .ok (.iastore, 1) := by decide +kernel
theorem dX3_mixBlock_68 : decode cX3_mixBlock 68 = .ok (.iinc 1 1, 3) := by decide +kernel
theorem dX3_mixBlock_71 : decode cX3_mixBlock 71 = .ok (.goto (-24), 3) := by decide +kernel
theorem dX3_mixBlock_74 : decode cX3_mixBlock 74 = .ok (.return_, 1) := by decide +kernel
theorem hyX3_mixBlock : yX3_mixBlock.cls ≠ "java/lang/invoke/MethodHandle" ∧ yX3_mixBlock.cls ≠ "java/lang/invoke/VarHandle" ∧ (parseMethodDescriptor yX3_mixBlock.desc).map (fun d => d.parameters.length) = some 0 := by decide +kernel
abbrev J_X3_mixBlock_17 (E : gx_E) (v0 : Nat) (v1 : Int32) (u : gx_S) : Prop := gx_Wc E 2 17 [(0, .ref (ex_ad E v0)), (1, .int v1)] [] u
abbrev J_X3_mixBlock_47 (E : gx_E) (v0 : Nat) (v1 : Int32) (u : gx_S) : Prop := gx_Wc E 2 47 [(0, .ref (ex_ad E v0)), (1, .int v1)] [] u
set_option maxHeartbeats 4000000 in
set_option maxRecDepth 100000 in
theorem w_X3_mixBlock_0 {E : gx_E} (X : gx_X E cX3_mixBlock 2 RX3 none) (hd : 2 ≤ ex_d E) {post : gx_S → Prop} (hQ : ex_Q E = va_Qv post (gx_B (ex_Z E)) (gx_A (ex_Z E))) {u : gx_S} {v0 : Nat} (h : (gx_isO v0 3 ∧ (gx_isR (gx_r u v0 0) .int ∧ gx_isA (gx_r u v0 1) .int ∧ ¬ (0 : Int32) < 0 ∧ ¬ (0 : Int32) < 0 ∧ ¬ (8 : Int32) < 0 ∧ (0 : Int32).toNatClampNeg + (8 : Int32).toNatClampNeg ≤ gx_len (gx_r u v0 0) ∧ (0 : Int32).toNatClampNeg + (8 : Int32).toNatClampNeg ≤ gx_len (gx_r u v0 1) ∧ ∀ u9 : gx_S, u9 = gx_pa u (gx_r u v0 1) (va_cpy (gx_a u (gx_r u v0 0)) (gx_a u (gx_r u v0 1)) (0 : Int32).toNatClampNeg (0 : Int32).toNatClampNeg (8 : Int32).toNatClampNeg) → J_X3_mixBlock_17 E v0 (0 : Int32) u9))) : gx_Wc E 2 0 [(0, .ref (ex_ad E v0))] [] u := by
  refine gx_aload_n X (j := 0) dX3_mixBlock_0 rfl rfl ?_
  obtain ⟨k1, h⟩ := h
  refine gx_get X k1 rfl iwX3 0 (by decide) mw_75 (v := .ref (ex_ad E (gx_r u v0 0))) rfl dX3_mixBlock_1 ?_
  refine gx_iconst X (v := 0) dX3_mixBlock_4 (by decide) ?_
  refine gx_aload_n X (j := 0) dX3_mixBlock_5 rfl rfl ?_
  refine gx_get X k1 rfl iwX3 1 (by decide) mw_76 (v := .ref (ex_ad E (gx_r u v0 1))) rfl dX3_mixBlock_6 ?_
  refine gx_iconst X (v := 0) dX3_mixBlock_9 (by decide) ?_
  refine gx_bipush X (v := 8) dX3_mixBlock_10 (by decide) ?_
  obtain ⟨k2, h⟩ := h
  obtain ⟨k3, h⟩ := h
  obtain ⟨k4, k5, k6, k7, k8, h⟩ := h
  refine gx_copy X (Nat.le_trans (by decide) hd) k2 k3 rfl k4 k5 k6 k7 k8 mw_337 mw_339 mw_338 mw_12 (Nat.le_of_ble_eq_true rfl) dX3_mixBlock_12 ?_
  refine gx_nams (fun u9 eu9 => ?_)
  replace h := h u9 eu9
  refine gx_iconst X (v := 0) dX3_mixBlock_15 (by decide) ?_
  refine gx_istore_n X (lv' := [(1, .int (0 : Int32)), (0, .ref (ex_ad E v0))]) dX3_mixBlock_16 rfl (by decide) rfl ?_
  exact gx_sub [1, 0] rfl h
set_option maxHeartbeats 4000000 in
set_option maxRecDepth 100000 in
theorem w_X3_mixBlock_17 {E : gx_E} (X : gx_X E cX3_mixBlock 2 RX3 none) (hd : 2 ≤ ex_d E) {post : gx_S → Prop} (hQ : ex_Q E = va_Qv post (gx_B (ex_Z E)) (gx_A (ex_Z E))) {u : gx_S} {v0 : Nat} {v1 : Int32} (h : (((64 : Int32) ≤ v1 → J_X3_mixBlock_47 E v0 (0 : Int32) u) ∧ (¬ (64 : Int32) ≤ v1 → (gx_isR 61 .int ∧ vp_in v1 (gx_len 61) ∧ (gx_isO v0 3 ∧ (gx_isR (gx_r u v0 2) .int ∧ vp_in v1 (gx_len (gx_r u v0 2)) ∧ (S_X3_mixRound u v0 ((gx_a u 61 v1.toNatClampNeg) + (gx_a u (gx_r u v0 2) v1.toNatClampNeg)) (fun (u6 : gx_S) => (∀ x7 : Int32, x7 = v1 + 1 → J_X3_mixBlock_17 E v0 x7 u6))))))))) : gx_Wc E 2 17 [(0, .ref (ex_ad E v0)), (1, .int v1)] [] u := by
  refine gx_iload_n X (j := 1) dX3_mixBlock_17 rfl rfl ?_
  refine gx_bipush X (v := 64) dX3_mixBlock_18 (by decide) ?_
  refine gx_icmp_ge X (tgt := 45) dX3_mixBlock_20 (by decide) (fun c8 => ?_) (fun c8 => ?_)
  · replace h := h.1 c8
    refine gx_iconst X (v := 0) dX3_mixBlock_45 (by decide) ?_
    refine gx_istore_n X (lv' := [(1, .int (0 : Int32)), (0, .ref (ex_ad E v0))]) dX3_mixBlock_46 rfl (by decide) rfl ?_
    exact gx_sub [1, 0] rfl h
  · replace h := h.2 c8
    refine gx_aload_n X (j := 0) dX3_mixBlock_23 rfl rfl ?_
    refine gx_gets X (a := 61) (by decide +kernel) mw_358 dX3_mixBlock_24 ?_
    refine gx_iload_n X (j := 1) dX3_mixBlock_27 rfl rfl ?_
    obtain ⟨k1, h⟩ := h
    obtain ⟨k2, h⟩ := h
    refine gx_iald X k1 k2 dX3_mixBlock_28 ?_
    refine gx_aload_n X (j := 0) dX3_mixBlock_29 rfl rfl ?_
    obtain ⟨k3, h⟩ := h
    refine gx_get X k3 rfl iwX3 2 (by decide) mw_77 (v := .ref (ex_ad E (gx_r u v0 2))) rfl dX3_mixBlock_30 ?_
    refine gx_iload_n X (j := 1) dX3_mixBlock_33 rfl rfl ?_
    obtain ⟨k4, h⟩ := h
    obtain ⟨k5, h⟩ := h
    refine gx_iald X k4 k5 dX3_mixBlock_34 ?_
    refine gx_iadd X dX3_mixBlock_35 ?_
    refine gx_kv (gx_rV X (c_X3_mixRound h) (Nat.le_trans (by decide) hd) (Nat.le_trans (by decide) (Nat.mul_le_mul_left 40 hd)) k3 rfl mw_360 mw_362 mp_4 mw_5 mw_363 hyX3_mixRound (As := [.int ((gx_a u 61 v1.toNatClampNeg) + (gx_a u (gx_r u v0 2) v1.toNatClampNeg))]) (rest := []) rfl rfl (Nat.le_of_ble_eq_true rfl) dX3_mixBlock_36) (fun u6 h => ?_)
    obtain ⟨x7, ex7⟩ : ∃ y : Int32, y = v1 + 1 := ⟨_, rfl⟩
    replace h := h x7 ex7
    refine gx_iinc X (v := x7) (lv' := [(1, .int x7), (0, .ref (ex_ad E v0))]) dX3_mixBlock_39 (j := 1) rfl (by rw [ex7]; rfl) (by decide) rfl ?_
    refine gx_goto X (tgt := 17) dX3_mixBlock_42 (by decide) ?_
    exact gx_sub [1, 0] rfl h
set_option maxHeartbeats 4000000 in
set_option maxRecDepth 100000 in
theorem w_X3_mixBlock_47 {E : gx_E} (X : gx_X E cX3_mixBlock 2 RX3 none) (hd : 2 ≤ ex_d E) {post : gx_S → Prop} (hQ : ex_Q E = va_Qv post (gx_B (ex_Z E)) (gx_A (ex_Z E))) {u : gx_S} {v0 : Nat} {v1 : Int32} (h : (((8 : Int32) ≤ v1 → post u) ∧ (¬ (8 : Int32) ≤ v1 → (gx_isO v0 3 ∧ (gx_isR (gx_r u v0 0) .int ∧ vp_in v1 (gx_len (gx_r u v0 0)) ∧ (gx_isR (gx_r u v0 1) .int ∧ vp_in v1 (gx_len (gx_r u v0 1)) ∧ (gx_isA (gx_r u v0 0) .int ∧ vp_in v1 (gx_len (gx_r u v0 0)) ∧ ∀ u8 : gx_S, u8 = gx_pa u (gx_r u v0 0) (upd (gx_a u (gx_r u v0 0)) v1.toNatClampNeg ((gx_a u (gx_r u v0 0) v1.toNatClampNeg) + (gx_a u (gx_r u v0 1) v1.toNatClampNeg))) → (∀ x9 : Int32, x9 = v1 + 1 → J_X3_mixBlock_47 E v0 x9 u8)))))))) : gx_Wc E 2 47 [(0, .ref (ex_ad E v0)), (1, .int v1)] [] u := by
  refine gx_iload_n X (j := 1) dX3_mixBlock_47 rfl rfl ?_
  refine gx_bipush X (v := 8) dX3_mixBlock_48 (by decide) ?_
  refine gx_icmp_ge X (tgt := 74) dX3_mixBlock_50 (by decide) (fun c10 => ?_) (fun c10 => ?_)
  · replace h := h.1 c10
    exact gx_vret X hQ h dX3_mixBlock_74
  · replace h := h.2 c10
    refine gx_aload_n X (j := 0) dX3_mixBlock_53 rfl rfl ?_
    obtain ⟨k1, h⟩ := h
    refine gx_get X k1 rfl iwX3 0 (by decide) mw_75 (v := .ref (ex_ad E (gx_r u v0 0))) rfl dX3_mixBlock_54 ?_
    refine gx_iload_n X (j := 1) dX3_mixBlock_57 rfl rfl ?_
    refine gx_dup2_11 X dX3_mixBlock_58 rfl rfl ?_
    obtain ⟨k2, h⟩ := h
    obtain ⟨k3, h⟩ := h
    refine gx_iald X k2 k3 dX3_mixBlock_59 ?_
    refine gx_aload_n X (j := 0) dX3_mixBlock_60 rfl rfl ?_
    refine gx_get X k1 rfl iwX3 1 (by decide) mw_76 (v := .ref (ex_ad E (gx_r u v0 1))) rfl dX3_mixBlock_61 ?_
    refine gx_iload_n X (j := 1) dX3_mixBlock_64 rfl rfl ?_
    obtain ⟨k4, h⟩ := h
    obtain ⟨k5, h⟩ := h
    refine gx_iald X k4 k5 dX3_mixBlock_65 ?_
    refine gx_iadd X dX3_mixBlock_66 ?_
    obtain ⟨k6, h⟩ := h
    obtain ⟨k7, h⟩ := h
    refine gx_iast X k6 k7 dX3_mixBlock_67 ?_
    refine gx_nams (fun u8 eu8 => ?_)
    replace h := h u8 eu8
    obtain ⟨x9, ex9⟩ : ∃ y : Int32, y = v1 + 1 := ⟨_, rfl⟩
    replace h := h x9 ex9
    refine gx_iinc X (v := x9) (lv' := [(1, .int x9), (0, .ref (ex_ad E v0))]) dX3_mixBlock_68 (j := 1) rfl (by rw [ex9]; rfl) (by decide) rfl ?_
    refine gx_goto X (tgt := 47) dX3_mixBlock_71 (by decide) ?_
    exact gx_sub [1, 0] rfl h
def ush (x : Int32) (k : Int32) : Int32 := (x.toUInt32 >>> (k.toUInt32 &&& Int32.toUInt32 31)).toInt32
def cexp (h : Nat → Int32) (i : Nat) : Int32 := ((((tr (h (i - 2)) 17 ^^^ tr (h (i - 2)) 19) ^^^ ush (h (i - 2)) 10) + h (i - 7)) + ((tr (h (i - 15)) 7 ^^^ tr (h (i - 15)) 18) ^^^ ush (h (i - 15)) 3)) + h (i - 16)
def schF (g : Nat → Int32) : Nat → (Nat → Int32)
  | 0 => g
  | k + 1 => upd (schF g k) (16 + k) (cexp (schF g k) (16 + k))
theorem cexp_cg {g h : Nat → Int32} {i : Nat} (hi : 16 ≤ i) (e : ∀ j, j < i → g j = h j) : cexp g i = cexp h i := by
  unfold cexp
  rw [e (i - 2) (by omega), e (i - 7) (by omega), e (i - 15) (by omega), e (i - 16) (by omega)]
/-- the sixteen words of a block -/
def w16 (T : List Nat) (p : Nat) (last : Bool) (i : Nat) : Int32 := if (last && decide (i = 15)) = true then nI (T.length * 8) else pwd T (p + 4 * i)
def S_X3_fillSchedule (u : gx_S) (v0 v1 : Nat) (v2 v3 : Int32) (post : gx_S → Prop) : Prop := v0 = 7 ∧ cfix u ∧ ∃ (T : List Nat) (p : Nat) (last : Bool), byL u v1 T ∧ gx_r u v1 0 ≠ 16 ∧ p < 2 ^ 20 ∧ v2 = nI p ∧ v3 = b2 last ∧ ∀ u', exA [16] u u' → (∀ j, j < 64 → gx_a u' 16 j = schF (w16 T p last) 48 j) → post u'
theorem isA16 : gx_isA 16 .int := ⟨by decide, rfl⟩
theorem in16 {i : Nat} (h : i < 64) : vp_in (nI i) (gx_len 16) := vp_in_nI (N := 64) h (by omega)
theorem nsub {a b : Nat} (h : b ≤ a) {B : Int32} (hB : B = nI b) : nI a - B = nI (a - b) := by rw [hB]; exact pk_sub h
theorem lp2_X3_fillSchedule {E : gx_E} (X : gx_X E cX3_fillSchedule 9 RX3 none) (hd : 3 ≤ ex_d E) {post : gx_S → Prop} (hQ : ex_Q E = va_Qv post (gx_B (ex_Z E)) (gx_A (ex_Z E))) {v1 : Nat} {v2 v3 : Int32} {g : Nat → Int32} {u0 : gx_S} (hp : ∀ u', exA [16] u0 u' → (∀ j, j < 64 → gx_a u' 16 j = schF g 48 j) → post u') :
    ∀ (n k : Nat) (u : gx_S), 48 - k = n → k ≤ 48 → cfix u → exA [16] u0 u → (∀ j, j < 16 + k → gx_a u 16 j = schF g k j) → J_X3_fillSchedule_55 E 7 v1 v2 v3 (nI (16 + k)) u := by
  intro n
  induction n with
  | zero =>
    intro k u hn hk hf hx hg
    have ek : k = 48 := by omega
    subst ek
    exact w_X3_fillSchedule_55 X hd hQ ⟨fun _ => hp u hx (fun j hj => hg j (by omega)), fun q => absurd (nI_le (a := 64) (by omega) (by omega)) q⟩
  | succ n ih =>
    intro k u hn hk hf hx hg
    have e : gx_r u 7 2 = 16 := hf 7 2 (by decide)
    refine w_X3_fillSchedule_55 X hd hQ ⟨fun q => absurd q (nI_ge (b := 64) (by omega) (by omega)), fun _ => ?_⟩
    rw [e, nsub (a := 16 + k) (b := 2) (B := 2) (by omega) rfl, nsub (a := 16 + k) (b := 15) (B := 15) (by omega) rfl, nsub (a := 16 + k) (b := 7) (B := 7) (by omega) rfl, nsub (a := 16 + k) (b := 16) (B := 16) (by omega) rfl]
    refine ⟨isO_x 7 3 (by decide), isA16.r, in16 (by omega), ?_⟩
    rintro x4 rfl
    refine ⟨in16 (by omega), ?_⟩
    rintro x6 rfl
    refine i_X3_turned (i_X3_turned ?_)
    rintro x11 rfl
    refine i_X3_turned (i_X3_turned ?_)
    rintro x16 rfl
    refine ⟨by rw [e]; exact isA16.r, by rw [e]; exact in16 (by omega), by rw [e]; exact in16 (by omega), by rw [e]; exact isA16, by rw [e]; exact in16 (by omega), ?_⟩
    rw [e]
    rintro u22 rfl x23 rfl
    rw [nI_1, show 16 + k + 1 = 16 + (k + 1) by omega]
    have ec : cexp (gx_a u 16) (16 + k) = cexp (schF g k) (16 + k) := cexp_cg (by omega) hg
    refine ih (k + 1) _ (by omega) (by omega) (fun o k h => hf o k h) (exA_tr hx (exA_pa _ _ (by simp))) (fun j hj => ?_)
    rw [gx_a_pa, if_pos rfl, nI_clamp (by omega), nI_clamp (by omega), nI_clamp (by omega), nI_clamp (by omega), nI_clamp (by omega), schF]
    by_cases ej : j = 16 + k
    · rw [ej, pk_us, pk_us]; exact ec
    · rw [pk_un ej, pk_un ej]; exact hg j (by omega)
theorem lp1_X3_fillSchedule {E : gx_E} (X : gx_X E cX3_fillSchedule 9 RX3 none) (hd : 3 ≤ ex_d E) {post : gx_S → Prop} (hQ : ex_Q E = va_Qv post (gx_B (ex_Z E)) (gx_A (ex_Z E))) {v1 p : Nat} {T : List Nat} {last : Bool} {u0 : gx_S} (hpp : p < 2 ^ 20) (hp : ∀ u', exA [16] u0 u' → (∀ j, j < 64 → gx_a u' 16 j = schF (w16 T p last) 48 j) → post u') :
    ∀ (n k : Nat) (u : gx_S), 16 - k = n → k ≤ 16 → cfix u → exA [16] u0 u → byL u v1 T → gx_r u v1 0 ≠ 16 → (∀ j, j < k → gx_a u 16 j = pwd T (p + 4 * j)) → J_X3_fillSchedule_3 E 7 v1 (nI p) (b2 last) (nI k) u := by
  intro n
  induction n with
  | zero =>
    intro k u hn hk hf hx hT hr hg
    have ek : k = 16 := by omega
    subst ek
    have e : gx_r u 7 2 = 16 := hf 7 2 (by decide)
    have hT2 := hT.2.2.2.2.1
    refine w_X3_fillSchedule_3 X hd hQ ⟨fun _ => ⟨fun q => ?_, fun q => ?_⟩, fun q => absurd (nI_le (a := 16) (by omega) (by omega)) q⟩
    · rw [b2_0] at q
      refine lp2_X3_fillSchedule X hd hQ hp 48 0 u (by omega) (by omega) hf hx (fun j hj => ?_)
      rw [hg j (by omega)]
      unfold schF w16
      rw [q, if_neg (by simp)]
    · rw [e]
      refine ⟨isO_x 7 3 (by decide), hT.1, i_X0_size hT ⟨isA16, in16 (i := 15) (by omega), ?_⟩⟩
      rintro u7 rfl
      refine lp2_X3_fillSchedule X hd hQ hp 48 0 _ (by omega) (by omega) (fun o k h => hf o k h) (exA_tr hx (exA_pa _ _ (by simp))) (fun j hj => ?_)
      rw [gx_a_pa, if_pos rfl, show (15 : Int32).toNatClampNeg = 15 from rfl, show (8 : Int32) = nI 8 from rfl, pk_mul]
      unfold schF w16
      rw [b2_n0 q]
      by_cases ej : j = 15
      · rw [ej, pk_us, if_pos (by decide)]
      · rw [pk_un ej, if_neg (by simpa using ej)]
        exact hg j (by omega)
  | succ n ih =>
    intro k u hn hk hf hx hT hr hg
    have e : gx_r u 7 2 = 16 := hf 7 2 (by decide)
    refine w_X3_fillSchedule_3 X hd hQ ⟨fun q => absurd q (nI_ge (b := 16) (by omega) (by omega)), fun _ => ?_⟩
    rw [e, show (4 : Int32) = nI 4 from rfl, pk_mul, nI_add]
    refine ⟨isO_x 7 3 (by decide), T, p + 4 * k, hT, by omega, rfl, isA16, in16 (by omega), ?_⟩
    rintro u14 rfl x15 rfl
    rw [nI_1]
    refine ih (k + 1) _ (by omega) (by omega) (fun o k h => hf o k h) (exA_tr hx (exA_pa _ _ (by simp))) (byL_pa hT hr) hr (fun j hj => ?_)
    rw [gx_a_pa, if_pos rfl, nI_clamp (by omega)]
    by_cases ej : j = k
    · rw [ej, pk_us]
    · rw [pk_un ej]; exact hg j (by omega)
theorem w_X3_fillSchedule {E : gx_E} (X : gx_X E cX3_fillSchedule 9 RX3 none) (hd : 3 ≤ ex_d E) {post : gx_S → Prop} (hQ : ex_Q E = va_Qv post (gx_B (ex_Z E)) (gx_A (ex_Z E))) {u : gx_S} {v0 v1 : Nat} {v2 v3 : Int32} (h : S_X3_fillSchedule u v0 v1 v2 v3 post) : gx_Wc E 9 0 [(0, .ref (ex_ad E v0)), (1, .ref (ex_ad E v1)), (2, .int v2), (3, .int v3)] [] u := by
  obtain ⟨rfl, hf, T, p, last, hT, hr, hpp, rfl, rfl, hp⟩ := h
  exact w_X3_fillSchedule_0 X hd hQ (lp1_X3_fillSchedule X hd hQ hpp hp 16 0 u (by omega) (by omega) hf (exA_rf _ _) hT hr (fun j hj => by omega))
theorem c_X3_fillSchedule {l : Launch} {Z : gx_Z} {u : gx_S} {v0 : Nat} {v1 : Nat} {v2 : Int32} {v3 : Int32} {post : gx_S → Prop} (h : S_X3_fillSchedule u v0 v1 v2 v3 post) : Met l yX3_fillSchedule (Cond.code yX3_fillSchedule cX3_fillSchedule 9 none :: gx_TB) (gx_rm 3) (gx_Pre Z u [.ref (Z.2.1 v0), .ref (Z.2.1 v1), .int v2, .int v3]) (va_Qv post (gx_B Z) (gx_A Z)) 0 0 (gx_A Z) := by
  refine gx_met (by decide +kernel) (Nat.le_of_ble_eq_true rfl) ?_
  intro E X hZ hQ hD hL
  subst hZ
  exact w_X3_fillSchedule X (Nat.le_of_eq hD.symm) hQ h
-- a block
def mx (s K W : Nat → Int32) : Nat → (Nat → Int32)
  | 0 => s
  | n + 1 => rnd (mx s K W n) (K n + W n)
def blk (s K W : Nat → Int32) (j : Nat) : Int32 := s j + mx s K W 64 j
theorem mx_cg {s t K K2 W W2 : Nat → Int32} (h : ∀ j, j < 8 → s j = t j) (hK : ∀ j, j < 64 → K j = K2 j) (hW : ∀ j, j < 64 → W j = W2 j) : ∀ n, n ≤ 64 → ∀ j, j < 8 → mx s K W n j = mx t K2 W2 n j
  | 0, _, j, hj => h j hj
  | n + 1, hn, j, hj => by
    unfold mx
    rw [hK n (by omega), hW n (by omega)]
    exact rnd_cg (mx_cg h hK hW n (by omega)) _ j hj
theorem blk_cg {s t K K2 W W2 : Nat → Int32} (h : ∀ j, j < 8 → s j = t j) (hK : ∀ j, j < 64 → K j = K2 j) (hW : ∀ j, j < 64 → W j = W2 j) (j : Nat) (hj : j < 8) : blk s K W j = blk t K2 W2 j := by
  unfold blk
  rw [h j hj, mx_cg h hK hW 64 (by omega) j hj]
def S_X3_mixBlock (u : gx_S) (v0 : Nat) (post : gx_S → Prop) : Prop := v0 = 7 ∧ cfix u ∧ ∀ u', exA [14, 15] u u' → (∀ j, j < 8 → gx_a u' 14 j = blk (gx_a u 14) (gx_a u 61) (gx_a u 16) j) → post u'
theorem isA14 : gx_isA 14 .int := ⟨by decide, rfl⟩
theorem in14 {i : Nat} (h : i < 8) : vp_in (nI i) (gx_len 14) := vp_in_nI (N := 8) h (by omega)
theorem isR61 : gx_isR 61 .int := ⟨by decide, rfl⟩
theorem isR60 : gx_isR 60 .int := ⟨by decide, rfl⟩
theorem lp2_X3_mixBlock {E : gx_E} (X : gx_X E cX3_mixBlock 2 RX3 none) (hd : 2 ≤ ex_d E) {post : gx_S → Prop} (hQ : ex_Q E = va_Qv post (gx_B (ex_Z E)) (gx_A (ex_Z E))) {s m : Nat → Int32} {u0 : gx_S} (hp : ∀ u', exA [14, 15] u0 u' → (∀ j, j < 8 → gx_a u' 14 j = s j + m j) → post u') :
    ∀ (n k : Nat) (u : gx_S), 8 - k = n → k ≤ 8 → cfix u → exA [14, 15] u0 u → (∀ j, j < 8 → gx_a u 15 j = m j) → (∀ j, j < k → gx_a u 14 j = s j + m j) → (∀ j, k ≤ j → j < 8 → gx_a u 14 j = s j) → J_X3_mixBlock_47 E 7 (nI k) u := by
  intro n
  induction n with
  | zero =>
    intro k u hn hk hf hx hm h1 h2
    exact w_X3_mixBlock_47 X hd hQ ⟨fun _ => hp u hx (fun j hj => h1 j (by omega)), fun q => absurd (nI_le (a := 8) (by omega) (by omega)) q⟩
  | succ n ih =>
    intro k u hn hk hf hx hm h1 h2
    refine w_X3_mixBlock_47 X hd hQ ⟨fun q => absurd q (nI_ge (b := 8) (by omega) (by omega)), fun _ => ?_⟩
    rw [show gx_r u 7 0 = 14 from hf 7 0 (by decide), show gx_r u 7 1 = 15 from hf 7 1 (by decide)]
    refine ⟨isO_x 7 3 (by decide), isA14.r, in14 (by omega), isA15.r, in15 (by omega), isA14, in14 (by omega), ?_⟩
    rintro u8 rfl x9 rfl
    rw [nI_1, nI_clamp (by omega)]
    refine ih (k + 1) _ (by omega) (by omega) (fun o k h => hf o k h) (exA_tr hx (exA_pa _ _ (by simp))) (fun j hj => ?_) (fun j hj => ?_) (fun j hj1 hj2 => ?_)
    · rw [gx_a_pa, if_neg (by decide)]; exact hm j hj
    · rw [gx_a_pa, if_pos rfl]
      by_cases ej : j = k
      · rw [ej, pk_us, h2 k (Nat.le_refl _) (by omega), hm k (by omega)]
      · rw [pk_un ej]; exact h1 j (by omega)
    · rw [gx_a_pa, if_pos rfl, pk_un (by omega)]; exact h2 j (by omega) hj2
theorem lp1_X3_mixBlock {E : gx_E} (X : gx_X E cX3_mixBlock 2 RX3 none) (hd : 2 ≤ ex_d E) {post : gx_S → Prop} (hQ : ex_Q E = va_Qv post (gx_B (ex_Z E)) (gx_A (ex_Z E))) {s K W : Nat → Int32} {u0 : gx_S} (hp : ∀ u', exA [14, 15] u0 u' → (∀ j, j < 8 → gx_a u' 14 j = blk s K W j) → post u') :
    ∀ (n k : Nat) (u : gx_S), 64 - k = n → k ≤ 64 → cfix u → exA [14, 15] u0 u → (∀ j, j < 64 → gx_a u 61 j = K j) → (∀ j, j < 64 → gx_a u 16 j = W j) → (∀ j, j < 8 → gx_a u 14 j = s j) → (∀ j, j < 8 → gx_a u 15 j = mx s K W k j) → J_X3_mixBlock_17 E 7 (nI k) u := by
  intro n
  induction n with
  | zero =>
    intro k u hn hk hf hx hK hW hs hm
    have ek : k = 64 := by omega
    subst ek
    exact w_X3_mixBlock_17 X hd hQ ⟨fun _ => lp2_X3_mixBlock X hd hQ (m := mx s K W 64) hp 8 0 u (by omega) (by omega) hf hx hm (fun j hj => by omega) (fun j _ hj => hs j hj), fun q => absurd (nI_le (a := 64) (by omega) (by omega)) q⟩
  | succ n ih =>
    intro k u hn hk hf hx hK hW hs hm
    refine w_X3_mixBlock_17 X hd hQ ⟨fun q => absurd q (nI_ge (b := 64) (by omega) (by omega)), fun _ => ?_⟩
    rw [show gx_r u 7 2 = 16 from hf 7 2 (by decide), nI_clamp (by omega), hK k (by omega), hW k (by omega)]
    refine ⟨isR61, vp_in_nI (N := 64) (by omega) (by omega), isO_x 7 3 (by decide), isA16.r, in16 (by omega), rfl, hf, ?_⟩
    intro u' hx' hr' x7 e7
    subst e7
    rw [nI_1]
    refine ih (k + 1) u' (by omega) (by omega) (exA_cfix hx' hf) (exA_tr hx (exA_wk hx' (by simp))) (fun j hj => ?_) (fun j hj => ?_) (fun j hj => ?_) (fun j hj => ?_)
    · rw [hx'.2.2.2 61 (by decide)]; exact hK j hj
    · rw [hx'.2.2.2 16 (by decide)]; exact hW j hj
    · rw [hx'.2.2.2 14 (by decide)]; exact hs j hj
    · rw [hr' j hj, mx]
      exact rnd_cg hm _ j hj
theorem w_X3_mixBlock {E : gx_E} (X : gx_X E cX3_mixBlock 2 RX3 none) (hd : 2 ≤ ex_d E) {post : gx_S → Prop} (hQ : ex_Q E = va_Qv post (gx_B (ex_Z E)) (gx_A (ex_Z E))) {u : gx_S} {v0 : Nat} (h : S_X3_mixBlock u v0 post) : gx_Wc E 2 0 [(0, .ref (ex_ad E v0))] [] u := by
  obtain ⟨rfl, hf, hp⟩ := h
  refine w_X3_mixBlock_0 X hd hQ ?_
  rw [show gx_r u 7 0 = 14 from hf 7 0 (by decide), show gx_r u 7 1 = 15 from hf 7 1 (by decide)]
  refine ⟨isO_x 7 3 (by decide), isA14.r, isA15, by decide, by decide, by decide, by decide, by decide, ?_⟩
  rintro u9 rfl
  refine lp1_X3_mixBlock X hd hQ (s := gx_a u 14) (K := gx_a u 61) (W := gx_a u 16) hp 64 0 _ (by omega) (by omega) (fun o k h => hf o k h) (exA_pa _ _ (by simp)) (fun j _ => ?_) (fun j _ => ?_) (fun j _ => ?_) (fun j hj => ?_)
  · rw [gx_a_pa, if_neg (by decide)]
  · rw [gx_a_pa, if_neg (by decide)]
  · rw [gx_a_pa, if_neg (by decide)]
  · rw [gx_a_pa, if_pos rfl]
    exact sb_cpy0 (n := 8) hj
theorem c_X3_mixBlock {l : Launch} {Z : gx_Z} {u : gx_S} {v0 : Nat} {post : gx_S → Prop} (h : S_X3_mixBlock u v0 post) : Met l yX3_mixBlock (Cond.code yX3_mixBlock cX3_mixBlock 2 none :: gx_TB) (gx_rm 2) (gx_Pre Z u [.ref (Z.2.1 v0)]) (va_Qv post (gx_B Z) (gx_A Z)) 0 0 (gx_A Z) := by
  refine gx_met (by decide +kernel) (Nat.le_of_ble_eq_true rfl) ?_
  intro E X hZ hQ hD hL
  subst hZ
  exact w_X3_mixBlock X (Nat.le_of_eq hD.symm) hQ h
-- PlainSeal$Sha256.write(LPlainSeal$Bytes;LPlainSeal$Bytes;)V
theorem dX3_write_0 : decode cX3_write 0 = .ok (.aload_n 1, 1) := by decide +kernel
theorem dX3_write_1 : decode cX3_write 1 = .ok (.invokevirtual 19, 3) := by decide +kernel
theorem dX3_write_4 : decode cX3_write 4 = .ok (.bipush 9, 2) := by decide +kernel
theorem dX3_write_6 : decode cX3_write 6 = .ok (.iadd, 1) := by decide +kernel
theorem dX3_write_7 : decode cX3_write 7 = .ok (.bipush 64, 2) := by decide +kernel
theorem dX3_write_9 : decode cX3_write 9 = .ok (.iadd, 1) := by decide +kernel
theorem dX3_write_10 : decode cX3_write 10 = .ok (.iconst 1, 1) := by decide +kernel
theorem dX3_write_11 : decode cX3_write 11 = .ok (.isub, 1) := by decide +kernel
theorem dX3_write_12 : decode cX3_write 12 = .ok (.bipush 64, 2) := by decide +kernel
theorem dX3_write_14 : decode cX3_write 14 = .ok (.idiv, 1) := by decide +kernel
theorem dX3_write_15 : decode cX3_write 15 = .ok (.istore_n 3, 1) := by decide +kernel
theorem dX3_write_16 : decode cX3_write 16 = .ok (.getstatic 25, 3) := by decide +kernel
theorem dX3_write_19 : decode cX3_write 19 = .ok (.iconst 0, 1) := by decide +kernel
theorem dX3_write_20 : decode cX3_write 20 = .ok (.aload_n 0, 1) := by decide +kernel
theorem dX3_write_21 : decode cX3_write 21 = .ok (.getfield 9, 3) := by decide +kernel
theorem dX3_write_24 : decode cX3_write 24 = .ok (.iconst 0, 1) := by decide +kernel
theorem dX3_write_25 : decode cX3_write 25 = .ok (.bipush 8, 2) := by decide +kernel
theorem dX3_write_27 : decode cX3_write 27 = .ok (.invokestatic 28, 3) := by decide +kernel
theorem dX3_write_30 : decode cX3_write 30 = .ok (.iconst 0, 1) := by decide +kernel
theorem dX3_write_31 : decode cX3_write 31 = .ok (.istore 4, 2) := by decide +kernel
theorem dX3_write_33 : decode cX3_write 33 = .ok (.iload 4, 2) := by decide +kernel
theorem dX3_write_35 : decode cX3_write 35 = .ok (.iload_n 3, 1) := by decide +kernel
theorem dX3_write_36 : decode cX3_write 36 = .ok (.if_icmp .ge 36, 3) := by decide +kernel
theorem dX3_write_39 : decode cX3_write 39 = .ok (.aload_n 0, 1) := by decide +kernel
theorem dX3_write_40 : decode cX3_write 40 = .ok (.aload_n 1, 1) := by decide +kernel
theorem dX3_write_41 : decode cX3_write 41 = .ok (.iload 4, 2) := by decide +kernel
theorem dX3_write_43 : decode cX3_write 43 = .ok (.bipush 64, 2) := by decide +kernel
theorem dX3_write_45 : decode cX3_write 45 = .ok (.imul, 1) := by decide +kernel
theorem dX3_write_46 : decode cX3_write 46 = .ok (.iload 4, 2) := by decide +kernel
theorem dX3_write_48 : decode cX3_write 48 = .ok (.iload_n 3, 1) := by decide +kernel
theorem dX3_write_49 : decode cX3_write 49 = .ok (.iconst 1, 1) := by decide +kernel
theorem dX3_write_50 : decode cX3_write 50 = .ok (.isub, 1) := by decide +kernel
theorem dX3_write_51 : decode cX3_write 51 = .ok (.if_icmp .ne 7, 3) := by decide +kernel
theorem dX3_write_54 : decode cX3_write 54 = .ok (.iconst 1, 1) := by decide +kernel
theorem dX3_write_55 : decode cX3_write 55 = .ok (.goto 4, 3) := by decide +kernel
theorem dX3_write_58 : decode cX3_write 58 = .ok (.iconst 0, 1) := by decide +kernel
theorem dX3_write_59 : decode cX3_write 59 = .ok (.invokevirtual 34, 3) := by decide +kernel
theorem dX3_write_62 : decode cX3_write 62 = .ok (.aload_n 0, 1) := by decide +kernel
theorem dX3_write_63 : decode cX3_write 63 = .ok (.invokevirtual 38, 3) := by decide +kernel
theorem dX3_write_66 : decode cX3_write 66 = .ok (.iinc 4 1, 3) := by decide +kernel
theorem dX3_write_69 : decode cX3_write 69 = .ok (.goto (-36), 3) := by decide +kernel
theorem dX3_write_72 : decode cX3_write 72 = .ok (.aload_n 2, 1) := by decide +kernel
theorem dX3_write_73 : decode cX3_write 73 = .ok (.invokevirtual 41, 3) := by decide +kernel
theorem dX3_write_76 : decode cX3_write 76 = .ok (.iconst 0, 1) := by decide +kernel
theorem dX3_write_77 : decode cX3_write 77 = .ok (.istore 4, 2) := by decide +kernel
theorem dX3_write_79 : decode cX3_write 79 = .ok (.iload 4, 2) := by decide +kernel
theorem dX3_write_81 : decode cX3_write 81 = .ok (.bipush 8, 2) := by decide +kernel
theorem dX3_write_83 : decode cX3_write 83 = .ok (.if_icmp .ge 20, 3) := by decide +kernel
theorem dX3_write_86 : decode cX3_write 86 = .ok (.aload_n 2, 1) := by decide +kernel
theorem dX3_write_87 : decode cX3_write 87 = .ok (.aload_n 0, 1) := by decide +kernel
theorem dX3_write_88 : decode cX3_write 88 = .ok (.getfield 9, 3) := by decide +kernel
theorem dX3_write_91 : decode cX3_write 91 = .ok (.iload 4, 2) := by decide +kernel
theorem dX3_write_93 : decode cX3_write 93 = .ok (.iaload, 1) := by decide +kernel
theorem dX3_write_94 : decode cX3_write 94 = .ok (.invokevirtual 44, 3) := by decide +kernel
theorem dX3_write_97 : decode cX3_write 97 = .ok (.iinc 4 1, 3) := by decide +kernel
theorem dX3_write_100 : decode cX3_write 100 = .ok (.goto (-21), 3) := by decide +kernel
theorem dX3_write_103 : decode cX3_write 103 = .ok (.return_, 1) := by decide +kernel
theorem hyX3_write : yX3_write.cls ≠ "java/lang/invoke/MethodHandle" ∧ yX3_write.cls ≠ "java/lang/invoke/VarHandle" ∧ (parseMethodDescriptor yX3_write.desc).map (fun d => d.parameters.length) = some 2 := by decide +kernel
abbrev J_X3_write_33 (E : gx_E) (v0 : Nat) (v1 : Nat) (v2 : Nat) (v3 : Int32) (v4 : Int32) (u : gx_S) : Prop := gx_Wc E 5 33 [(0, .ref (ex_ad E v0)), (1, .ref (ex_ad E v1)), (2, .ref (ex_ad E v2)), (3, .int v3), (4, .int v4)] [] u
abbrev J_X3_write_79 (E : gx_E) (v0 : Nat) (v1 : Nat) (v2 : Nat) (v3 : Int32) (v4 : Int32) (u : gx_S) : Prop := gx_Wc E 5 79 [(0, .ref (ex_ad E v0)), (1, .ref (ex_ad E v1)), (2, .ref (ex_ad E v2)), (3, .int v3), (4, .int v4)] [] u
set_option maxHeartbeats 4000000 in
set_option maxRecDepth 100000 in
theorem w_X3_write_0 {E : gx_E} (X : gx_X E cX3_write 5 RX3 none) (hd : 4 ≤ ex_d E) {post : gx_S → Prop} (hQ : ex_Q E = va_Qv post (gx_B (ex_Z E)) (gx_A (ex_Z E))) {u : gx_S} {v0 : Nat} {v1 : Nat} {v2 : Nat} (h : (gx_isO v1 0 ∧ S_X0_size u v1 (fun (r3 : Int32) (u2 : gx_S) => (∀ x4 : Int32, x4 = ((((r3 + (9 : Int32)) + (64 : Int32)) - (1 : Int32)) / (64 : Int32)) → (gx_isO v0 3 ∧ (gx_isR 60 .int ∧ gx_isA (gx_r u2 v0 0) .int ∧ ¬ (0 : Int32) < 0 ∧ ¬ (0 : Int32) < 0 ∧ ¬ (8 : Int32) < 0 ∧ (0 : Int32).toNatClampNeg + (8 : Int32).toNatClampNeg ≤ gx_len 60 ∧ (0 : Int32).toNatClampNeg + (8 : Int32).toNatClampNeg ≤ gx_len (gx_r u2 v0 0) ∧ ∀ u13 : gx_S, u13 = gx_pa u2 (gx_r u2 v0 0) (va_cpy (gx_a u2 60) (gx_a u2 (gx_r u2 v0 0)) (0 : Int32).toNatClampNeg (0 : Int32).toNatClampNeg (8 : Int32).toNatClampNeg) → J_X3_write_33 E v0 v1 v2 x4 (0 : Int32) u13)))))) : gx_Wc E 5 0 [(0, .ref (ex_ad E v0)), (1, .ref (ex_ad E v1)), (2, .ref (ex_ad E v2))] [] u := by
  refine gx_aload_n X (j := 1) dX3_write_0 rfl rfl ?_
  obtain ⟨k1, h⟩ := h
  refine gx_ki (gx_rV X (c_X0_size h) (Nat.le_trans (by decide) hd) (Nat.le_trans (by decide) (Nat.mul_le_mul_left 40 hd)) k1 rfl mw_334 mw_128 mw_129 mw_2 mw_130 hyX0_size (As := []) (rest := []) rfl rfl (Nat.le_of_ble_eq_true rfl) dX3_write_1) (fun r3 u2 h => ?_)
  refine gx_bipush X (v := 9) dX3_write_4 (by decide) ?_
  refine gx_iadd X dX3_write_6 ?_
  refine gx_bipush X (v := 64) dX3_write_7 (by decide) ?_
  refine gx_iadd X dX3_write_9 ?_
  refine gx_iconst X (v := 1) dX3_write_10 (by decide) ?_
  refine gx_isub X dX3_write_11 ?_
  refine gx_bipush X (v := 64) dX3_write_12 (by decide) ?_
  refine gx_idiv X dX3_write_14 (by decide) ?_
  refine gx_nami (fun x4 ex4 => ?_)
  replace h := h x4 ex4
  refine gx_istore_n X (lv' := [(3, .int x4), (0, .ref (ex_ad E v0)), (1, .ref (ex_ad E v1)), (2, .ref (ex_ad E v2))]) dX3_write_15 rfl (by decide) rfl ?_
  refine gx_gets X (a := 60) (by decide +kernel) mw_335 dX3_write_16 ?_
  refine gx_iconst X (v := 0) dX3_write_19 (by decide) ?_
  refine gx_aload_n X (j := 1) dX3_write_20 rfl rfl ?_
  obtain ⟨k5, h⟩ := h
  refine gx_get X k5 rfl iwX3 0 (by decide) mw_75 (v := .ref (ex_ad E (gx_r u2 v0 0))) rfl dX3_write_21 ?_
  refine gx_iconst X (v := 0) dX3_write_24 (by decide) ?_
  refine gx_bipush X (v := 8) dX3_write_25 (by decide) ?_
  obtain ⟨k6, h⟩ := h
  obtain ⟨k7, h⟩ := h
  obtain ⟨k8, k9, k10, k11, k12, h⟩ := h
  refine gx_copy X (Nat.le_trans (by decide) hd) k6 k7 rfl k8 k9 k10 k11 k12 mw_337 mw_339 mw_338 mw_12 (Nat.le_of_ble_eq_true rfl) dX3_write_27 ?_
  refine gx_nams (fun u13 eu13 => ?_)
  replace h := h u13 eu13
  refine gx_iconst X (v := 0) dX3_write_30 (by decide) ?_
  refine gx_istore X (lv' := [(4, .int (0 : Int32)), (3, .int x4), (0, .ref (ex_ad E v0)), (1, .ref (ex_ad E v1)), (2, .ref (ex_ad E v2))]) dX3_write_31 (by decide) rfl ?_
  exact gx_sub [2, 3, 4, 1, 0] rfl h
set_option maxHeartbeats 4000000 in
set_option maxRecDepth 100000 in
theorem w_X3_write_33 {E : gx_E} (X : gx_X E cX3_write 5 RX3 none) (hd : 4 ≤ ex_d E) {post : gx_S → Prop} (hQ : ex_Q E = va_Qv post (gx_B (ex_Z E)) (gx_A (ex_Z E))) {u : gx_S} {v0 : Nat} {v1 : Nat} {v2 : Nat} {v3 : Int32} {v4 : Int32} (h : ((v3 ≤ v4 → (gx_isO v2 0 ∧ S_X0_clear u v2 (fun (u2 : gx_S) => J_X3_write_79 E v0 v1 v2 v3 (0 : Int32) u2))) ∧ (¬ v3 ≤ v4 → ((¬ v4 = (v3 - (1 : Int32)) → (gx_isO v0 3 ∧ S_X3_fillSchedule u v0 v1 (v4 * (64 : Int32)) (0 : Int32) (fun (u4 : gx_S) => (S_X3_mixBlock u4 v0 (fun (u5 : gx_S) => (∀ x6 : Int32, x6 = v4 + 1 → J_X3_write_33 E v0 v1 v2 v3 x6 u5)))))) ∧ (v4 = (v3 - (1 : Int32)) → (gx_isO v0 3 ∧ S_X3_fillSchedule u v0 v1 (v4 * (64 : Int32)) (1 : Int32) (fun (u8 : gx_S) => (S_X3_mixBlock u8 v0 (fun (u9 : gx_S) => (∀ x10 : Int32, x10 = v4 + 1 → J_X3_write_33 E v0 v1 v2 v3 x10 u9)))))))))) : gx_Wc E 5 33 [(0, .ref (ex_ad E v0)), (1, .ref (ex_ad E v1)), (2, .ref (ex_ad E v2)), (3, .int v3), (4, .int v4)] [] u := by
  refine gx_iload X (j := 4) dX3_write_33 rfl ?_
  refine gx_iload_n X (j := 3) dX3_write_35 rfl rfl ?_
  refine gx_icmp_ge X (tgt := 72) dX3_write_36 (by decide) (fun c12 => ?_) (fun c12 => ?_)
  · replace h := h.1 c12
    refine gx_aload_n X (j := 2) dX3_write_72 rfl rfl ?_
    obtain ⟨k1, h⟩ := h
    refine gx_kv (gx_rV X (c_X0_clear h) (Nat.le_trans (by decide) hd) (Nat.le_trans (by decide) (Nat.mul_le_mul_left 40 hd)) k1 rfl mw_364 mw_192 mw_193 mw_2 mw_194 hyX0_clear (As := []) (rest := []) rfl rfl (Nat.le_of_ble_eq_true rfl) dX3_write_73) (fun u2 h => ?_)
    refine gx_iconst X (v := 0) dX3_write_76 (by decide) ?_
    refine gx_istore X (lv' := [(4, .int (0 : Int32)), (0, .ref (ex_ad E v0)), (1, .ref (ex_ad E v1)), (2, .ref (ex_ad E v2)), (3, .int v3)]) dX3_write_77 (by decide) rfl ?_
    exact gx_sub [1, 2, 3, 4, 0] rfl h
  · replace h := h.2 c12
    refine gx_aload_n X (j := 0) dX3_write_39 rfl rfl ?_
    refine gx_aload_n X (j := 1) dX3_write_40 rfl rfl ?_
    refine gx_iload X (j := 4) dX3_write_41 rfl ?_
    refine gx_bipush X (v := 64) dX3_write_43 (by decide) ?_
    refine gx_imul X dX3_write_45 ?_
    refine gx_iload X (j := 4) dX3_write_46 rfl ?_
    refine gx_iload_n X (j := 3) dX3_write_48 rfl rfl ?_
    refine gx_iconst X (v := 1) dX3_write_49 (by decide) ?_
    refine gx_isub X dX3_write_50 ?_
    refine gx_icmp_ne X (tgt := 58) dX3_write_51 (by decide) (fun c11 => ?_) (fun c11 => ?_)
    · replace h := h.1 c11
      refine gx_iconst X (v := 0) dX3_write_58 (by decide) ?_
      obtain ⟨k3, h⟩ := h
      refine gx_kv (gx_rV X (c_X3_fillSchedule h) (Nat.le_trans (by decide) hd) (Nat.le_trans (by decide) (Nat.mul_le_mul_left 40 hd)) k3 rfl mw_340 mw_342 mp_2 mw_5 mw_343 hyX3_fillSchedule (As := [.ref (ex_ad E v1), .int (v4 * (64 : Int32)), .int (0 : Int32)]) (rest := []) rfl rfl (Nat.le_of_ble_eq_true rfl) dX3_write_59) (fun u4 h => ?_)
      refine gx_aload_n X (j := 0) dX3_write_62 rfl rfl ?_
      refine gx_kv (gx_rV X (c_X3_mixBlock h) (Nat.le_trans (by decide) hd) (Nat.le_trans (by decide) (Nat.mul_le_mul_left 40 hd)) k3 rfl mw_354 mw_356 mp_3 mw_5 mw_357 hyX3_mixBlock (As := []) (rest := []) rfl rfl (Nat.le_of_ble_eq_true rfl) dX3_write_63) (fun u5 h => ?_)
      obtain ⟨x6, ex6⟩ : ∃ y : Int32, y = v4 + 1 := ⟨_, rfl⟩
      replace h := h x6 ex6
      refine gx_iinc X (v := x6) (lv' := [(4, .int x6), (0, .ref (ex_ad E v0)), (1, .ref (ex_ad E v1)), (2, .ref (ex_ad E v2)), (3, .int v3)]) dX3_write_66 (j := 4) rfl (by rw [ex6]; rfl) (by decide) rfl ?_
      refine gx_goto X (tgt := 33) dX3_write_69 (by decide) ?_
      exact gx_sub [1, 2, 3, 4, 0] rfl h
    · replace h := h.2 c11
      refine gx_iconst X (v := 1) dX3_write_54 (by decide) ?_
      refine gx_goto X (tgt := 59) dX3_write_55 (by decide) ?_
      obtain ⟨k7, h⟩ := h
      refine gx_kv (gx_rV X (c_X3_fillSchedule h) (Nat.le_trans (by decide) hd) (Nat.le_trans (by decide) (Nat.mul_le_mul_left 40 hd)) k7 rfl mw_340 mw_342 mp_2 mw_5 mw_343 hyX3_fillSchedule (As := [.ref (ex_ad E v1), .int (v4 * (64 : Int32)), .int (1 : Int32)]) (rest := []) rfl rfl (Nat.le_of_ble_eq_true rfl) dX3_write_59) (fun u8 h => ?_)
      refine gx_aload_n X (j := 0) dX3_write_62 rfl rfl ?_
      refine gx_kv (gx_rV X (c_X3_mixBlock h) (Nat.le_trans (by decide) hd) (Nat.le_trans (by decide) (Nat.mul_le_mul_left 40 hd)) k7 rfl mw_354 mw_356 mp_3 mw_5 mw_357 hyX3_mixBlock (As := []) (rest := []) rfl rfl (Nat.le_of_ble_eq_true rfl) dX3_write_63) (fun u9 h => ?_)
      obtain ⟨x10, ex10⟩ : ∃ y : Int32, y = v4 + 1 := ⟨_, rfl⟩
      replace h := h x10 ex10
      refine gx_iinc X (v := x10) (lv' := [(4, .int x10), (0, .ref (ex_ad E v0)), (1, .ref (ex_ad E v1)), (2, .ref (ex_ad E v2)), (3, .int v3)]) dX3_write_66 (j := 4) rfl (by rw [ex10]; rfl) (by decide) rfl ?_
      refine gx_goto X (tgt := 33) dX3_write_69 (by decide) ?_
      exact gx_sub [1, 2, 3, 4, 0] rfl h
set_option maxHeartbeats 4000000 in
set_option maxRecDepth 100000 in
theorem w_X3_write_79 {E : gx_E} (X : gx_X E cX3_write 5 RX3 none) (hd : 4 ≤ ex_d E) {post : gx_S → Prop} (hQ : ex_Q E = va_Qv post (gx_B (ex_Z E)) (gx_A (ex_Z E))) {u : gx_S} {v0 : Nat} {v1 : Nat} {v2 : Nat} {v3 : Int32} {v4 : Int32} (h : (((8 : Int32) ≤ v4 → post u) ∧ (¬ (8 : Int32) ≤ v4 → (gx_isO v0 3 ∧ (gx_isR (gx_r u v0 0) .int ∧ vp_in v4 (gx_len (gx_r u v0 0)) ∧ (gx_isO v2 0 ∧ S_X0_addWord u v2 (gx_a u (gx_r u v0 0) v4.toNatClampNeg) (fun (u5 : gx_S) => (∀ x6 : Int32, x6 = v4 + 1 → J_X3_write_79 E v0 v1 v2 v3 x6 u5)))))))) : gx_Wc E 5 79 [(0, .ref (ex_ad E v0)), (1, .ref (ex_ad E v1)), (2, .ref (ex_ad E v2)), (3, .int v3), (4, .int v4)] [] u := by
  refine gx_iload X (j := 4) dX3_write_79 rfl ?_
  refine gx_bipush X (v := 8) dX3_write_81 (by decide) ?_
  refine gx_icmp_ge X (tgt := 103) dX3_write_83 (by decide) (fun c7 => ?_) (fun c7 => ?_)
  · replace h := h.1 c7
    exact gx_vret X hQ h dX3_write_103
  · replace h := h.2 c7
    refine gx_aload_n X (j := 2) dX3_write_86 rfl rfl ?_
    refine gx_aload_n X (j := 0) dX3_write_87 rfl rfl ?_
    obtain ⟨k1, h⟩ := h
    refine gx_get X k1 rfl iwX3 0 (by decide) mw_75 (v := .ref (ex_ad E (gx_r u v0 0))) rfl dX3_write_88 ?_
    refine gx_iload X (j := 4) dX3_write_91 rfl ?_
    obtain ⟨k2, h⟩ := h
    obtain ⟨k3, h⟩ := h
    refine gx_iald X k2 k3 dX3_write_93 ?_
    obtain ⟨k4, h⟩ := h
    refine gx_kv (gx_rV X (c_X0_addWord h) (Nat.le_trans (by decide) hd) (Nat.le_trans (by decide) (Nat.mul_le_mul_left 40 hd)) k4 rfl mw_365 mw_132 mw_133 mw_2 mw_134 hyX0_addWord (As := [.int (gx_a u (gx_r u v0 0) v4.toNatClampNeg)]) (rest := []) rfl rfl (Nat.le_of_ble_eq_true rfl) dX3_write_94) (fun u5 h => ?_)
    obtain ⟨x6, ex6⟩ : ∃ y : Int32, y = v4 + 1 := ⟨_, rfl⟩
    replace h := h x6 ex6
    refine gx_iinc X (v := x6) (lv' := [(4, .int x6), (0, .ref (ex_ad E v0)), (1, .ref (ex_ad E v1)), (2, .ref (ex_ad E v2)), (3, .int v3)]) dX3_write_97 (j := 4) rfl (by rw [ex6]; rfl) (by decide) rfl ?_
    refine gx_goto X (tgt := 79) dX3_write_100 (by decide) ?_
    exact gx_sub [1, 2, 3, 4, 0] rfl h
/-- the state behind n blocks of a row of B -/
def shS (HC K : Nat → Int32) (T : List Nat) (B : Nat) : Nat → (Nat → Int32)
  | 0 => HC
  | n + 1 => blk (shS HC K T B n) K (schF (w16 T (n * 64) (decide (n + 1 = B))) 48)
def nblk (T : List Nat) : Nat := (T.length + 72) / 64
def dgB (h : Nat → Int32) : Nat → List Nat
  | 0 => []
  | n + 1 => dgB h n ++ wB (h n)
theorem dgB_len (h : Nat → Int32) : ∀ n, (dgB h n).length = 4 * n
  | 0 => rfl
  | n + 1 => by rw [dgB, List.length_append, dgB_len h n]; simp [wB]; omega
theorem dgB_cg {g h : Nat → Int32} : ∀ n, (∀ j, j < n → g j = h j) → dgB g n = dgB h n
  | 0, _ => rfl
  | n + 1, e => by rw [dgB, dgB, dgB_cg n (fun j hj => e j (by omega)), e n (by omega)]
/-- the digest of a row -/
def dig (HC K : Nat → Int32) (T : List Nat) : List Nat := dgB (shS HC K T (nblk T) (nblk T)) 8
def S_X3_write (u : gx_S) (v0 v1 v2 : Nat) (post : gx_S → Prop) : Prop := v0 = 7 ∧ v1 = 1 ∧ v2 = 2 ∧ cfix u ∧ ∃ T O : List Nat, byL u 1 T ∧ byL u 2 O ∧ ∀ u', exA [14, 15, 16] u u' → byU u' 2 (dig (gx_a u 60) (gx_a u 61) T) post
theorem lp2_X3_write {E : gx_E} (X : gx_X E cX3_write 5 RX3 none) (hd : 4 ≤ ex_d E) {post : gx_S → Prop} (hQ : ex_Q E = va_Qv post (gx_B (ex_Z E)) (gx_A (ex_Z E))) {v3 : Int32} {h : Nat → Int32} :
    ∀ (n k : Nat) (u : gx_S), 8 - k = n → k ≤ 8 → cfix u → (∀ j, j < 8 → gx_a u 14 j = h j) → byL u 2 (dgB h k) → byU u 2 (dgB h 8) post → J_X3_write_79 E 7 1 2 v3 (nI k) u := by
  intro n
  induction n with
  | zero =>
    intro k u hn hk hf hs hO hp
    have ek : k = 8 := by omega
    subst ek
    exact w_X3_write_79 X hd hQ ⟨fun _ => byU_self hO hp, fun q => absurd (nI_le (a := 8) (by omega) (by omega)) q⟩
  | succ n ih =>
    intro k u hn hk hf hs hO hp
    refine w_X3_write_79 X hd hQ ⟨fun q => absurd q (nI_ge (b := 8) (by omega) (by omega)), fun _ => ?_⟩
    rw [show gx_r u 7 0 = 14 from hf 7 0 (by decide), nI_clamp (by omega), hs k (by omega)]
    refine ⟨isO_x 7 3 (by decide), isA14.r, in14 (by omega), hO.1, i_X0_addWord hO (by rw [dgB_len]; omega) (fun f hf2 => ?_)⟩
    rintro x6 rfl
    rw [nI_1]
    have hl : (dgB h k ++ wB (h k)).length ≤ 2000 := by
      have := dgB_len h (k + 1)
      rw [dgB] at this
      omega
    refine ih (k + 1) _ (by omega) (by omega) (fun o k h => hf o k h) (fun j hj => ?_) (byL_W hO hf2 hl) (byU_W hp)
    rw [byW_a, if_neg (by rw [hf 2 0 (by decide)]; decide)]
    exact hs j hj
theorem lp1_X3_write {E : gx_E} (X : gx_X E cX3_write 5 RX3 none) (hd : 4 ≤ ex_d E) {post : gx_S → Prop} (hQ : ex_Q E = va_Qv post (gx_B (ex_Z E)) (gx_A (ex_Z E))) {T O : List Nat} {HC K : Nat → Int32} {u0 : gx_S} (hp : ∀ u', exA [14, 15, 16] u0 u' → byU u' 2 (dig HC K T) post) (hb : nblk T < 40) :
    ∀ (n k : Nat) (u : gx_S), nblk T - k = n → k ≤ nblk T → cfix u → exA [14, 15, 16] u0 u → byL u 1 T → byL u 2 O → (∀ j, j < 64 → gx_a u 61 j = K j) → (∀ j, j < 8 → gx_a u 14 j = shS HC K T (nblk T) k j) → J_X3_write_33 E 7 1 2 (nI (nblk T)) (nI k) u := by
  intro n
  induction n with
  | zero =>
    intro k u hn hk hf hx hT hO hK hs
    have ek : k = nblk T := by omega
    subst ek
    refine w_X3_write_33 X hd hQ ⟨fun _ => ⟨hO.1, i_X0_clear hO (fun f hf2 => ?_)⟩, fun q => absurd (nI_le (by omega) (by omega)) q⟩
    refine lp2_X3_write X hd hQ (h := shS HC K T (nblk T) (nblk T)) 8 0 _ (by omega) (by omega) (fun o k h => hf o k h) (fun j hj => ?_) (byL_W hO hf2 (by simp)) (byU_W (hp u hx))
    rw [byW_a, if_neg (by rw [hf 2 0 (by decide)]; decide)]
    exact hs j hj
  | succ n ih =>
    intro k u hn hk hf hx hT hO hK hs
    have step : ∀ last : Bool, last = decide (k + 1 = nblk T) → S_X3_fillSchedule u 7 1 (nI k * (64 : Int32)) (b2 last) (fun (u4 : gx_S) => (S_X3_mixBlock u4 7 (fun (u5 : gx_S) => (∀ x6 : Int32, x6 = nI k + 1 → J_X3_write_33 E 7 1 2 (nI (nblk T)) x6 u5)))) := by
      intro last hl
      rw [show (64 : Int32) = nI 64 from rfl, pk_mul]
      refine ⟨rfl, hf, T, k * 64, last, hT, by rw [hf 1 0 (by decide)]; decide, by omega, rfl, rfl, ?_⟩
      intro u4 hx4 hw4
      refine ⟨rfl, exA_cfix hx4 hf, ?_⟩
      intro u5 hx5 hs5 x6 e6
      subst e6
      rw [nI_1]
      have hx45 : exA [14, 15, 16] u u5 := exA_tr (exA_wk hx4 (by simp)) (exA_wk hx5 (by simp))
      refine ih (k + 1) u5 (by omega) (by omega) (exA_cfix hx45 hf) (exA_tr hx hx45) (exA_byL hx45 hT (by rw [hf 1 0 (by decide)]; decide)) (exA_byL hx45 hO (by rw [hf 2 0 (by decide)]; decide)) (fun j hj => ?_) (fun j hj => ?_)
      · rw [hx45.2.2.2 61 (by decide)]; exact hK j hj
      · rw [hs5 j hj, shS, ← hl]
        refine blk_cg (fun i hi => ?_) (fun i hi => ?_) hw4 j hj
        · rw [hx4.2.2.2 14 (by decide)]; exact hs i hi
        · rw [hx4.2.2.2 61 (by decide)]; exact hK i hi
    refine w_X3_write_33 X hd hQ ⟨fun q => absurd q (nI_ge (by omega) (by omega)), fun _ => ?_⟩
    rw [nsub (a := nblk T) (b := 1) (B := 1) (by omega) rfl, nI_eq (by omega) (by omega)]
    exact ⟨fun q => ⟨isO_x 7 3 (by decide), step false (decide_eq_false (by omega)).symm⟩, fun q => ⟨isO_x 7 3 (by decide), step true (decide_eq_true (by omega)).symm⟩⟩
theorem w_X3_write {E : gx_E} (X : gx_X E cX3_write 5 RX3 none) (hd : 4 ≤ ex_d E) {post : gx_S → Prop} (hQ : ex_Q E = va_Qv post (gx_B (ex_Z E)) (gx_A (ex_Z E))) {u : gx_S} {v0 v1 v2 : Nat} (h : S_X3_write u v0 v1 v2 post) : gx_Wc E 5 0 [(0, .ref (ex_ad E v0)), (1, .ref (ex_ad E v1)), (2, .ref (ex_ad E v2))] [] u := by
  obtain ⟨rfl, rfl, rfl, hf, T, O, hT, hO, hp⟩ := h
  have hT2 := hT.2.2.2.2.1
  have hb : nblk T < 40 := by unfold nblk; omega
  refine w_X3_write_0 X hd hQ ⟨hT.1, i_X0_size hT ?_⟩
  intro x4 e4
  rw [show (9 : Int32) = nI 9 from rfl, show (64 : Int32) = nI 64 from rfl, nI_add, nI_add, nsub (a := T.length + 9 + 64) (b := 1) (B := 1) (by omega) rfl, pk_div (by omega) (by omega) (by omega), show (T.length + 9 + 64 - 1) / 64 = nblk T by unfold nblk; omega] at e4
  subst e4
  rw [show gx_r u 7 0 = 14 from hf 7 0 (by decide)]
  refine ⟨isO_x 7 3 (by decide), isR60, isA14, by decide, by decide, by decide, by decide, by decide, ?_⟩
  rintro u13 rfl
  have hx : exA [14, 15, 16] u (gx_pa u 14 (va_cpy (gx_a u 60) (gx_a u 14) (0 : Int32).toNatClampNeg (0 : Int32).toNatClampNeg (8 : Int32).toNatClampNeg)) := exA_pa _ _ (by simp)
  refine lp1_X3_write X hd hQ (O := O) (HC := gx_a u 60) (K := gx_a u 61) hp hb (nblk T) 0 _ (by omega) (by omega) (exA_cfix hx hf) hx (exA_byL hx hT (by rw [hf 1 0 (by decide)]; decide)) (exA_byL hx hO (by rw [hf 2 0 (by decide)]; decide)) (fun j _ => ?_) (fun j hj => ?_)
  · rw [hx.2.2.2 61 (by decide)]
  · rw [gx_a_pa, if_pos rfl]
    exact sb_cpy0 (n := 8) hj
theorem c_X3_write {l : Launch} {Z : gx_Z} {u : gx_S} {v0 : Nat} {v1 : Nat} {v2 : Nat} {post : gx_S → Prop} (h : S_X3_write u v0 v1 v2 post) : Met l yX3_write (Cond.code yX3_write cX3_write 5 none :: gx_TB) (gx_rm 4) (gx_Pre Z u [.ref (Z.2.1 v0), .ref (Z.2.1 v1), .ref (Z.2.1 v2)]) (va_Qv post (gx_B Z) (gx_A Z)) 0 0 (gx_A Z) := by
  refine gx_met (by decide +kernel) (Nat.le_of_ble_eq_true rfl) ?_
  intro E X hZ hQ hD hL
  subst hZ
  exact w_X3_write X (Nat.le_of_eq hD.symm) hQ h
end
section
-- PlainSeal.feed(IIIII)I
theorem dX6_feed_0 : decode cX6_feed 0 = .ok (.aload_n 0, 1) := by decide +kernel
theorem dX6_feed_1 : decode cX6_feed 1 = .ok (.getfield 10, 3) := by decide +kernel
theorem dX6_feed_4 : decode cX6_feed 4 = .ok (.invokevirtual 47, 3) := by decide +kernel
theorem dX6_feed_7 : decode cX6_feed 7 = .ok (.bipush 20, 2) := by decide +kernel
theorem dX6_feed_9 : decode cX6_feed 9 = .ok (.iadd, 1) := by decide +kernel
theorem dX6_feed_10 : decode cX6_feed 10 = .ok (.sipush 2000, 3) := by decide +kernel
theorem dX6_feed_13 : decode cX6_feed 13 = .ok (.if_icmp .le 6, 3) := by decide +kernel
theorem dX6_feed_16 : decode cX6_feed 16 = .ok (.bipush (-3), 2) := by decide +kernel
theorem dX6_feed_18 : decode cX6_feed 18 = .ok (.ireturn, 1) := by decide +kernel
theorem dX6_feed_19 : decode cX6_feed 19 = .ok (.aload_n 0, 1) := by decide +kernel
theorem dX6_feed_20 : decode cX6_feed 20 = .ok (.getfield 10, 3) := by decide +kernel
theorem dX6_feed_23 : decode cX6_feed 23 = .ok (.iload_n 1, 1) := by decide +kernel
theorem dX6_feed_24 : decode cX6_feed 24 = .ok (.invokevirtual 51, 3) := by decide +kernel
theorem dX6_feed_27 : decode cX6_feed 27 = .ok (.aload_n 0, 1) := by decide +kernel
theorem dX6_feed_28 : decode cX6_feed 28 = .ok (.getfield 10, 3) := by decide +kernel
theorem dX6_feed_31 : decode cX6_feed 31 = .ok (.iload_n 2, 1) := by decide +kernel
theorem dX6_feed_32 : decode cX6_feed 32 = .ok (.invokevirtual 51, 3) := by decide +kernel
theorem dX6_feed_35 : decode cX6_feed 35 = .ok (.aload_n 0, 1) := by decide +kernel
theorem dX6_feed_36 : decode cX6_feed 36 = .ok (.getfield 10, 3) := by decide +kernel
theorem dX6_feed_39 : decode cX6_feed 39 = .ok (.iload_n 3, 1) := by decide +kernel
theorem dX6_feed_40 : decode cX6_feed 40 = .ok (.invokevirtual 51, 3) := by decide +kernel
theorem dX6_feed_43 : decode cX6_feed 43 = .ok (.aload_n 0, 1) := by decide +kernel
theorem dX6_feed_44 : decode cX6_feed 44 = .ok (.getfield 10, 3) := by decide +kernel
theorem dX6_feed_47 : decode cX6_feed 47 = .ok (.iload 4, 2) := by decide +kernel
theorem dX6_feed_49 : decode cX6_feed 49 = .ok (.invokevirtual 51, 3) := by decide +kernel
theorem dX6_feed_52 : decode cX6_feed 52 = .ok (.aload_n 0, 1) := by decide +kernel
theorem dX6_feed_53 : decode cX6_feed 53 = .ok (.getfield 10, 3) := by decide +kernel
theorem dX6_feed_56 : decode cX6_feed 56 = .ok (.iload 5, 2) := by decide +kernel
theorem dX6_feed_58 : decode cX6_feed 58 = .ok (.invokevirtual 51, 3) := by decide +kernel
theorem dX6_feed_61 : decode cX6_feed 61 = .ok (.aload_n 0, 1) := by decide +kernel
theorem dX6_feed_62 : decode cX6_feed 62 = .ok (.getfield 10, 3) := by decide +kernel
theorem dX6_feed_65 : decode cX6_feed 65 = .ok (.invokevirtual 47, 3) := by decide +kernel
theorem dX6_feed_68 : decode cX6_feed 68 = .ok (.ireturn, 1) := by decide +kernel
theorem hyX6_feed : yX6_feed.cls ≠ "java/lang/invoke/MethodHandle" ∧ yX6_feed.cls ≠ "java/lang/invoke/VarHandle" ∧ (parseMethodDescriptor yX6_feed.desc).map (fun d => d.parameters.length) = some 5 := by decide +kernel
def S_X6_feed (u : gx_S) (v0 : Nat) (v1 : Int32) (v2 : Int32) (v3 : Int32) (v4 : Int32) (v5 : Int32) (post : Int32 → gx_S → Prop) : Prop := (gx_isO v0 5 ∧ (gx_isO (gx_r u v0 0) 0 ∧ S_X0_size u (gx_r u v0 0) (fun (r4 : Int32) (u3 : gx_S) => (((r4 + (20 : Int32)) ≤ (2000 : Int32) → (gx_isO (gx_r u3 v0 0) 0 ∧ S_X0_addWord u3 (gx_r u3 v0 0) v1 (fun (u6 : gx_S) => (gx_isO (gx_r u6 v0 0) 0 ∧ S_X0_addWord u6 (gx_r u6 v0 0) v2 (fun (u8 : gx_S) => (gx_isO (gx_r u8 v0 0) 0 ∧ S_X0_addWord u8 (gx_r u8 v0 0) v3 (fun (u10 : gx_S) => (gx_isO (gx_r u10 v0 0) 0 ∧ S_X0_addWord u10 (gx_r u10 v0 0) v4 (fun (u12 : gx_S) => (gx_isO (gx_r u12 v0 0) 0 ∧ S_X0_addWord u12 (gx_r u12 v0 0) v5 (fun (u14 : gx_S) => (gx_isO (gx_r u14 v0 0) 0 ∧ S_X0_size u14 (gx_r u14 v0 0) (fun (r17 : Int32) (u16 : gx_S) => post r17 u16))))))))))))) ∧ (¬ (r4 + (20 : Int32)) ≤ (2000 : Int32) → post (-3 : Int32) u3)))))
set_option maxHeartbeats 4000000 in
set_option maxRecDepth 100000 in
theorem w_X6_feed {E : gx_E} (X : gx_X E cX6_feed 6 RX6 (some .int)) (hd : 2 ≤ ex_d E) {post : Int32 → gx_S → Prop} (hQ : ex_Q E = va_Qi post (gx_B (ex_Z E)) (gx_A (ex_Z E))) {u : gx_S} {v0 : Nat} {v1 : Int32} {v2 : Int32} {v3 : Int32} {v4 : Int32} {v5 : Int32} (h : S_X6_feed u v0 v1 v2 v3 v4 v5 post) : gx_Wc E 6 0 [(0, .ref (ex_ad E v0)), (1, .int v1), (2, .int v2), (3, .int v3), (4, .int v4), (5, .int v5)] [] u := by
  unfold S_X6_feed at h
  refine gx_aload_n X (j := 0) dX6_feed_0 rfl rfl ?_
  obtain ⟨k1, h⟩ := h
  refine gx_get X k1 rfl iwX6 0 (by decide) mw_104 (v := .ref (ex_ad E (gx_r u v0 0))) rfl dX6_feed_1 ?_
  obtain ⟨k2, h⟩ := h
  refine gx_ki (gx_rV X (c_X0_size h) (Nat.le_trans (by decide) hd) (Nat.le_trans (by decide) (Nat.mul_le_mul_left 40 hd)) k2 rfl mw_127 mw_128 mw_129 mw_2 mw_130 hyX0_size (As := []) (rest := []) rfl rfl (Nat.le_of_ble_eq_true rfl) dX6_feed_4) (fun r4 u3 h => ?_)
  refine gx_bipush X (v := 20) dX6_feed_7 (by decide) ?_
  refine gx_iadd X dX6_feed_9 ?_
  refine gx_sipush X (v := 2000) dX6_feed_10 (by decide) ?_
  refine gx_icmp_le X (tgt := 19) dX6_feed_13 (by decide) (fun c18 => ?_) (fun c18 => ?_)
  · replace h := h.1 c18
    refine gx_aload_n X (j := 0) dX6_feed_19 rfl rfl ?_
    refine gx_get X k1 rfl iwX6 0 (by decide) mw_104 (v := .ref (ex_ad E (gx_r u3 v0 0))) rfl dX6_feed_20 ?_
    refine gx_iload_n X (j := 1) dX6_feed_23 rfl rfl ?_
    obtain ⟨k5, h⟩ := h
    refine gx_kv (gx_rV X (c_X0_addWord h) (Nat.le_trans (by decide) hd) (Nat.le_trans (by decide) (Nat.mul_le_mul_left 40 hd)) k5 rfl mw_131 mw_132 mw_133 mw_2 mw_134 hyX0_addWord (As := [.int v1]) (rest := []) rfl rfl (Nat.le_of_ble_eq_true rfl) dX6_feed_24) (fun u6 h => ?_)
    refine gx_aload_n X (j := 0) dX6_feed_27 rfl rfl ?_
    refine gx_get X k1 rfl iwX6 0 (by decide) mw_104 (v := .ref (ex_ad E (gx_r u6 v0 0))) rfl dX6_feed_28 ?_
    refine gx_iload_n X (j := 2) dX6_feed_31 rfl rfl ?_
    obtain ⟨k7, h⟩ := h
    refine gx_kv (gx_rV X (c_X0_addWord h) (Nat.le_trans (by decide) hd) (Nat.le_trans (by decide) (Nat.mul_le_mul_left 40 hd)) k7 rfl mw_131 mw_132 mw_133 mw_2 mw_134 hyX0_addWord (As := [.int v2]) (rest := []) rfl rfl (Nat.le_of_ble_eq_true rfl) dX6_feed_32) (fun u8 h => ?_)
    refine gx_aload_n X (j := 0) dX6_feed_35 rfl rfl ?_
    refine gx_get X k1 rfl iwX6 0 (by decide) mw_104 (v := .ref (ex_ad E (gx_r u8 v0 0))) rfl dX6_feed_36 ?_
    refine gx_iload_n X (j := 3) dX6_feed_39 rfl rfl ?_
    obtain ⟨k9, h⟩ := h
    refine gx_kv (gx_rV X (c_X0_addWord h) (Nat.le_trans (by decide) hd) (Nat.le_trans (by decide) (Nat.mul_le_mul_left 40 hd)) k9 rfl mw_131 mw_132 mw_133 mw_2 mw_134 hyX0_addWord (As := [.int v3]) (rest := []) rfl rfl (Nat.le_of_ble_eq_true rfl) dX6_feed_40) (fun u10 h => ?_)
    refine gx_aload_n X (j := 0) dX6_feed_43 rfl rfl ?_
    refine gx_get X k1 rfl iwX6 0 (by decide) mw_104 (v := .ref (ex_ad E (gx_r u10 v0 0))) rfl dX6_feed_44 ?_
    refine gx_iload X (j := 4) dX6_feed_47 rfl ?_
    obtain ⟨k11, h⟩ := h
    refine gx_kv (gx_rV X (c_X0_addWord h) (Nat.le_trans (by decide) hd) (Nat.le_trans (by decide) (Nat.mul_le_mul_left 40 hd)) k11 rfl mw_131 mw_132 mw_133 mw_2 mw_134 hyX0_addWord (As := [.int v4]) (rest := []) rfl rfl (Nat.le_of_ble_eq_true rfl) dX6_feed_49) (fun u12 h => ?_)
    refine gx_aload_n X (j := 0) dX6_feed_52 rfl rfl ?_
    refine gx_get X k1 rfl iwX6 0 (by decide) mw_104 (v := .ref (ex_ad E (gx_r u12 v0 0))) rfl dX6_feed_53 ?_
    refine gx_iload X (j := 5) dX6_feed_56 rfl ?_
    obtain ⟨k13, h⟩ := h
    refine gx_kv (gx_rV X (c_X0_addWord h) (Nat.le_trans (by decide) hd) (Nat.le_trans (by decide) (Nat.mul_le_mul_left 40 hd)) k13 rfl mw_131 mw_132 mw_133 mw_2 mw_134 hyX0_addWord (As := [.int v5]) (rest := []) rfl rfl (Nat.le_of_ble_eq_true rfl) dX6_feed_58) (fun u14 h => ?_)
    refine gx_aload_n X (j := 0) dX6_feed_61 rfl rfl ?_
    refine gx_get X k1 rfl iwX6 0 (by decide) mw_104 (v := .ref (ex_ad E (gx_r u14 v0 0))) rfl dX6_feed_62 ?_
    obtain ⟨k15, h⟩ := h
    refine gx_ki (gx_rV X (c_X0_size h) (Nat.le_trans (by decide) hd) (Nat.le_trans (by decide) (Nat.mul_le_mul_left 40 hd)) k15 rfl mw_127 mw_128 mw_129 mw_2 mw_130 hyX0_size (As := []) (rest := []) rfl rfl (Nat.le_of_ble_eq_true rfl) dX6_feed_65) (fun r17 u16 h => ?_)
    exact gx_iret X hQ h dX6_feed_68
  · replace h := h.2 c18
    refine gx_bipush X (v := -3) dX6_feed_16 (by decide) ?_
    exact gx_iret X hQ h dX6_feed_18
theorem c_X6_feed {l : Launch} {Z : gx_Z} {u : gx_S} {v0 : Nat} {v1 : Int32} {v2 : Int32} {v3 : Int32} {v4 : Int32} {v5 : Int32} {post : Int32 → gx_S → Prop} (h : S_X6_feed u v0 v1 v2 v3 v4 v5 post) : Met l yX6_feed (Cond.code yX6_feed cX6_feed 6 (some .int) :: gx_TB) (gx_rm 2) (gx_Pre Z u [.ref (Z.2.1 v0), .int v1, .int v2, .int v3, .int v4, .int v5]) (va_Qi post (gx_B Z) (gx_A Z)) 0 0 (gx_A Z) := by
  refine gx_met (by decide +kernel) (Nat.le_of_ble_eq_true rfl) ?_
  intro E X hZ hQ hD hL
  subst hZ
  exact w_X6_feed X (Nat.le_of_eq hD.symm) hQ h
-- PlainSeal.end(I)I
theorem dX6_end_0 : decode cX6_end 0 = .ok (.iload_n 1, 1) := by decide +kernel
theorem dX6_end_1 : decode cX6_end 1 = .ok (.ifCond .lt 14, 3) := by decide +kernel
theorem dX6_end_4 : decode cX6_end 4 = .ok (.iload_n 1, 1) := by decide +kernel
theorem dX6_end_5 : decode cX6_end 5 = .ok (.aload_n 0, 1) := by decide +kernel
theorem dX6_end_6 : decode cX6_end 6 = .ok (.getfield 10, 3) := by decide +kernel
theorem dX6_end_9 : decode cX6_end 9 = .ok (.invokevirtual 47, 3) := by decide +kernel
theorem dX6_end_12 : decode cX6_end 12 = .ok (.if_icmp .le 5, 3) := by decide +kernel
theorem dX6_end_15 : decode cX6_end 15 = .ok (.iconst (-1), 1) := by decide +kernel
theorem dX6_end_16 : decode cX6_end 16 = .ok (.ireturn, 1) := by decide +kernel
theorem dX6_end_17 : decode cX6_end 17 = .ok (.aload_n 0, 1) := by decide +kernel
theorem dX6_end_18 : decode cX6_end 18 = .ok (.getfield 10, 3) := by decide +kernel
theorem dX6_end_21 : decode cX6_end 21 = .ok (.iload_n 1, 1) := by decide +kernel
theorem dX6_end_22 : decode cX6_end 22 = .ok (.invokevirtual 55, 3) := by decide +kernel
theorem dX6_end_25 : decode cX6_end 25 = .ok (.iload_n 1, 1) := by decide +kernel
theorem dX6_end_26 : decode cX6_end 26 = .ok (.ireturn, 1) := by decide +kernel
theorem hyX6_end : yX6_end.cls ≠ "java/lang/invoke/MethodHandle" ∧ yX6_end.cls ≠ "java/lang/invoke/VarHandle" ∧ (parseMethodDescriptor yX6_end.desc).map (fun d => d.parameters.length) = some 1 := by decide +kernel
def S_X6_end (u : gx_S) (v0 : Nat) (v1 : Int32) (post : Int32 → gx_S → Prop) : Prop := ((v1 < 0 → post (-1 : Int32) u) ∧ (¬ v1 < 0 → (gx_isO v0 5 ∧ (gx_isO (gx_r u v0 0) 0 ∧ S_X0_size u (gx_r u v0 0) (fun (r4 : Int32) (u3 : gx_S) => ((v1 ≤ r4 → (gx_isO (gx_r u3 v0 0) 0 ∧ S_X0_cutTo u3 (gx_r u3 v0 0) v1 (fun (u6 : gx_S) => post v1 u6))) ∧ (¬ v1 ≤ r4 → post (-1 : Int32) u3)))))))
set_option maxHeartbeats 4000000 in
set_option maxRecDepth 100000 in
theorem w_X6_end {E : gx_E} (X : gx_X E cX6_end 2 RX6 (some .int)) (hd : 1 ≤ ex_d E) {post : Int32 → gx_S → Prop} (hQ : ex_Q E = va_Qi post (gx_B (ex_Z E)) (gx_A (ex_Z E))) {u : gx_S} {v0 : Nat} {v1 : Int32} (h : S_X6_end u v0 v1 post) : gx_Wc E 2 0 [(0, .ref (ex_ad E v0)), (1, .int v1)] [] u := by
  unfold S_X6_end at h
  refine gx_iload_n X (j := 1) dX6_end_0 rfl rfl ?_
  refine gx_if_lt X (tgt := 15) dX6_end_1 (by decide) (fun c8 => ?_) (fun c8 => ?_)
  · replace h := h.1 c8
    refine gx_iconst X (v := -1) dX6_end_15 (by decide) ?_
    exact gx_iret X hQ h dX6_end_16
  · replace h := h.2 c8
    refine gx_iload_n X (j := 1) dX6_end_4 rfl rfl ?_
    refine gx_aload_n X (j := 0) dX6_end_5 rfl rfl ?_
    obtain ⟨k1, h⟩ := h
    refine gx_get X k1 rfl iwX6 0 (by decide) mw_104 (v := .ref (ex_ad E (gx_r u v0 0))) rfl dX6_end_6 ?_
    obtain ⟨k2, h⟩ := h
    refine gx_ki (gx_rV X (c_X0_size h) (Nat.le_trans (by decide) hd) (Nat.le_trans (by decide) (Nat.mul_le_mul_left 40 hd)) k2 rfl mw_127 mw_128 mw_129 mw_2 mw_130 hyX0_size (As := []) (rest := [.int v1]) rfl rfl (Nat.le_of_ble_eq_true rfl) dX6_end_9) (fun r4 u3 h => ?_)
    refine gx_icmp_le X (tgt := 17) dX6_end_12 (by decide) (fun c7 => ?_) (fun c7 => ?_)
    · replace h := h.1 c7
      refine gx_aload_n X (j := 0) dX6_end_17 rfl rfl ?_
      refine gx_get X k1 rfl iwX6 0 (by decide) mw_104 (v := .ref (ex_ad E (gx_r u3 v0 0))) rfl dX6_end_18 ?_
      refine gx_iload_n X (j := 1) dX6_end_21 rfl rfl ?_
      obtain ⟨k5, h⟩ := h
      refine gx_kv (gx_rV X (c_X0_cutTo h) (Nat.le_trans (by decide) hd) (Nat.le_trans (by decide) (Nat.mul_le_mul_left 40 hd)) k5 rfl mw_143 mw_144 mw_145 mw_2 mw_146 hyX0_cutTo (As := [.int v1]) (rest := []) rfl rfl (Nat.le_of_ble_eq_true rfl) dX6_end_22) (fun u6 h => ?_)
      refine gx_iload_n X (j := 1) dX6_end_25 rfl rfl ?_
      exact gx_iret X hQ h dX6_end_26
    · replace h := h.2 c7
      refine gx_iconst X (v := -1) dX6_end_15 (by decide) ?_
      exact gx_iret X hQ h dX6_end_16
theorem c_X6_end {l : Launch} {Z : gx_Z} {u : gx_S} {v0 : Nat} {v1 : Int32} {post : Int32 → gx_S → Prop} (h : S_X6_end u v0 v1 post) : Met l yX6_end (Cond.code yX6_end cX6_end 2 (some .int) :: gx_TB) (gx_rm 1) (gx_Pre Z u [.ref (Z.2.1 v0), .int v1]) (va_Qi post (gx_B Z) (gx_A Z)) 0 0 (gx_A Z) := by
  refine gx_met (by decide +kernel) (Nat.le_of_ble_eq_true rfl) ?_
  intro E X hZ hQ hD hL
  subst hZ
  exact w_X6_end X (Nat.le_of_eq hD.symm) hQ h
-- PlainSeal.message()I
theorem dX6_message_0 : decode cX6_message 0 = .ok (.aload_n 0, 1) := by decide +kernel
theorem dX6_message_1 : decode cX6_message 1 = .ok (.getfield 22, 3) := by decide +kernel
theorem dX6_message_4 : decode cX6_message 4 = .ok (.aload_n 0, 1) := by decide +kernel
theorem dX6_message_5 : decode cX6_message 5 = .ok (.getfield 10, 3) := by decide +kernel
theorem dX6_message_8 : decode cX6_message 8 = .ok (.invokevirtual 58, 3) := by decide +kernel
theorem dX6_message_11 : decode cX6_message 11 = .ok (.istore_n 1, 1) := by decide +kernel
theorem dX6_message_12 : decode cX6_message 12 = .ok (.aload_n 0, 1) := by decide +kernel
theorem dX6_message_13 : decode cX6_message 13 = .ok (.getfield 10, 3) := by decide +kernel
theorem dX6_message_16 : decode cX6_message 16 = .ok (.invokevirtual 62, 3) := by decide +kernel
theorem dX6_message_19 : decode cX6_message 19 = .ok (.iload_n 1, 1) := by decide +kernel
theorem dX6_message_20 : decode cX6_message 20 = .ok (.ireturn, 1) := by decide +kernel
theorem hyX6_message : yX6_message.cls ≠ "java/lang/invoke/MethodHandle" ∧ yX6_message.cls ≠ "java/lang/invoke/VarHandle" ∧ (parseMethodDescriptor yX6_message.desc).map (fun d => d.parameters.length) = some 0 := by decide +kernel
def S_X6_message (u : gx_S) (v0 : Nat) (post : Int32 → gx_S → Prop) : Prop := (gx_isO v0 5 ∧ (gx_isO (gx_r u v0 2) 1 ∧ S_X1_read u (gx_r u v0 2) (gx_r u v0 0) (fun (r4 : Int32) (u3 : gx_S) => (gx_isO (gx_r u3 v0 0) 0 ∧ S_X0_clear u3 (gx_r u3 v0 0) (fun (u6 : gx_S) => post r4 u6)))))
set_option maxHeartbeats 4000000 in
set_option maxRecDepth 100000 in
theorem w_X6_message {E : gx_E} (X : gx_X E cX6_message 2 RX6 (some .int)) (hd : 5 ≤ ex_d E) {post : Int32 → gx_S → Prop} (hQ : ex_Q E = va_Qi post (gx_B (ex_Z E)) (gx_A (ex_Z E))) {u : gx_S} {v0 : Nat} (h : S_X6_message u v0 post) : gx_Wc E 2 0 [(0, .ref (ex_ad E v0))] [] u := by
  unfold S_X6_message at h
  refine gx_aload_n X (j := 0) dX6_message_0 rfl rfl ?_
  obtain ⟨k1, h⟩ := h
  refine gx_get X k1 rfl iwX6 2 (by decide) mw_106 (v := .ref (ex_ad E (gx_r u v0 2))) rfl dX6_message_1 ?_
  refine gx_aload_n X (j := 0) dX6_message_4 rfl rfl ?_
  refine gx_get X k1 rfl iwX6 0 (by decide) mw_104 (v := .ref (ex_ad E (gx_r u v0 0))) rfl dX6_message_5 ?_
  obtain ⟨k2, h⟩ := h
  refine gx_ki (gx_rV X (c_X1_read h) (Nat.le_trans (by decide) hd) (Nat.le_trans (by decide) (Nat.mul_le_mul_left 40 hd)) k2 rfl mw_151 mw_152 mw_153 mw_3 mw_154 hyX1_read (As := [.ref (ex_ad E (gx_r u v0 0))]) (rest := []) rfl rfl (Nat.le_of_ble_eq_true rfl) dX6_message_8) (fun r4 u3 h => ?_)
  refine gx_istore_n X (lv' := [(1, .int r4), (0, .ref (ex_ad E v0))]) dX6_message_11 rfl (by decide) rfl ?_
  refine gx_aload_n X (j := 1) dX6_message_12 rfl rfl ?_
  refine gx_get X k1 rfl iwX6 0 (by decide) mw_104 (v := .ref (ex_ad E (gx_r u3 v0 0))) rfl dX6_message_13 ?_
  obtain ⟨k5, h⟩ := h
  refine gx_kv (gx_rV X (c_X0_clear h) (Nat.le_trans (by decide) hd) (Nat.le_trans (by decide) (Nat.mul_le_mul_left 40 hd)) k5 rfl mw_200 mw_192 mw_193 mw_2 mw_194 hyX0_clear (As := []) (rest := []) rfl rfl (Nat.le_of_ble_eq_true rfl) dX6_message_16) (fun u6 h => ?_)
  refine gx_iload_n X (j := 0) dX6_message_19 rfl rfl ?_
  exact gx_iret X hQ h dX6_message_20
theorem c_X6_message {l : Launch} {Z : gx_Z} {u : gx_S} {v0 : Nat} {post : Int32 → gx_S → Prop} (h : S_X6_message u v0 post) : Met l yX6_message (Cond.code yX6_message cX6_message 2 (some .int) :: gx_TB) (gx_rm 5) (gx_Pre Z u [.ref (Z.2.1 v0)]) (va_Qi post (gx_B Z) (gx_A Z)) 0 0 (gx_A Z) := by
  refine gx_met (by decide +kernel) (Nat.le_of_ble_eq_true rfl) ?_
  intro E X hZ hQ hD hL
  subst hZ
  exact w_X6_message X (Nat.le_of_eq hD.symm) hQ h
-- PlainSeal.plainBody(Z)I
theorem dX6_plainBody_0 : decode cX6_plainBody 0 = .ok (.aload_n 0, 1) := by decide +kernel
theorem dX6_plainBody_1 : decode cX6_plainBody 1 = .ok (.getfield 22, 3) := by decide +kernel
theorem dX6_plainBody_4 : decode cX6_plainBody 4 = .ok (.invokevirtual 65, 3) := by decide +kernel
theorem dX6_plainBody_7 : decode cX6_plainBody 7 = .ok (.ifCond .eq 6, 3) := by decide +kernel
theorem dX6_plainBody_10 : decode cX6_plainBody 10 = .ok (.bipush (-2), 2) := by decide +kernel
theorem dX6_plainBody_12 : decode cX6_plainBody 12 = .ok (.ireturn, 1) := by decide +kernel
theorem dX6_plainBody_13 : decode cX6_plainBody 13 = .ok (.aload_n 0, 1) := by decide +kernel
theorem dX6_plainBody_14 : decode cX6_plainBody 14 = .ok (.getfield 22, 3) := by decide +kernel
theorem dX6_plainBody_17 : decode cX6_plainBody 17 = .ok (.iload_n 1, 1) := by decide +kernel
theorem dX6_plainBody_18 : decode cX6_plainBody 18 = .ok (.aload_n 0, 1) := by decide +kernel
theorem dX6_plainBody_19 : decode cX6_plainBody 19 = .ok (.getfield 16, 3) := by decide +kernel
theorem dX6_plainBody_22 : decode cX6_plainBody 22 = .ok (.invokevirtual 69, 3) := by decide +kernel
theorem dX6_plainBody_25 : decode cX6_plainBody 25 = .ok (.aload_n 0, 1) := by decide +kernel
theorem dX6_plainBody_26 : decode cX6_plainBody 26 = .ok (.getfield 16, 3) := by decide +kernel
theorem dX6_plainBody_29 : decode cX6_plainBody 29 = .ok (.invokevirtual 47, 3) := by decide +kernel
theorem dX6_plainBody_32 : decode cX6_plainBody 32 = .ok (.ireturn, 1) := by decide +kernel
theorem hyX6_plainBody : yX6_plainBody.cls ≠ "java/lang/invoke/MethodHandle" ∧ yX6_plainBody.cls ≠ "java/lang/invoke/VarHandle" ∧ (parseMethodDescriptor yX6_plainBody.desc).map (fun d => d.parameters.length) = some 1 := by decide +kernel
def S_X6_plainBody (u : gx_S) (v0 : Nat) (v1 : Int32) (post : Int32 → gx_S → Prop) : Prop := (gx_isO v0 5 ∧ (gx_isO (gx_r u v0 2) 1 ∧ S_X1_isMissing u (gx_r u v0 2) (fun (r4 : Int32) (u3 : gx_S) => ((r4 = 0 → (gx_isO (gx_r u3 v0 2) 1 ∧ S_X1_writeBody u3 (gx_r u3 v0 2) v1 (gx_r u3 v0 1) (fun (u6 : gx_S) => (gx_isO (gx_r u6 v0 1) 0 ∧ S_X0_size u6 (gx_r u6 v0 1) (fun (r9 : Int32) (u8 : gx_S) => post r9 u8))))) ∧ (¬ r4 = 0 → post (-2 : Int32) u3)))))
set_option maxHeartbeats 4000000 in
set_option maxRecDepth 100000 in
theorem w_X6_plainBody {E : gx_E} (X : gx_X E cX6_plainBody 2 RX6 (some .int)) (hd : 3 ≤ ex_d E) {post : Int32 → gx_S → Prop} (hQ : ex_Q E = va_Qi post (gx_B (ex_Z E)) (gx_A (ex_Z E))) {u : gx_S} {v0 : Nat} {v1 : Int32} (h : S_X6_plainBody u v0 v1 post) : gx_Wc E 2 0 [(0, .ref (ex_ad E v0)), (1, .int v1)] [] u := by
  unfold S_X6_plainBody at h
  refine gx_aload_n X (j := 0) dX6_plainBody_0 rfl rfl ?_
  obtain ⟨k1, h⟩ := h
  refine gx_get X k1 rfl iwX6 2 (by decide) mw_106 (v := .ref (ex_ad E (gx_r u v0 2))) rfl dX6_plainBody_1 ?_
  obtain ⟨k2, h⟩ := h
  refine gx_ki (gx_rV X (c_X1_isMissing h) (Nat.le_trans (by decide) hd) (Nat.le_trans (by decide) (Nat.mul_le_mul_left 40 hd)) k2 rfl mw_205 mw_206 mw_207 mw_3 mw_208 hyX1_isMissing (As := []) (rest := []) rfl rfl (Nat.le_of_ble_eq_true rfl) dX6_plainBody_4) (fun r4 u3 h => ?_)
  refine gx_if_eq X (tgt := 13) dX6_plainBody_7 (by decide) (fun c10 => ?_) (fun c10 => ?_)
  · replace h := h.1 c10
    refine gx_aload_n X (j := 0) dX6_plainBody_13 rfl rfl ?_
    refine gx_get X k1 rfl iwX6 2 (by decide) mw_106 (v := .ref (ex_ad E (gx_r u3 v0 2))) rfl dX6_plainBody_14 ?_
    refine gx_iload_n X (j := 1) dX6_plainBody_17 rfl rfl ?_
    refine gx_aload_n X (j := 0) dX6_plainBody_18 rfl rfl ?_
    refine gx_get X k1 rfl iwX6 1 (by decide) mw_105 (v := .ref (ex_ad E (gx_r u3 v0 1))) rfl dX6_plainBody_19 ?_
    obtain ⟨k5, h⟩ := h
    refine gx_kv (gx_rV X (c_X1_writeBody h) (Nat.le_trans (by decide) hd) (Nat.le_trans (by decide) (Nat.mul_le_mul_left 40 hd)) k5 rfl mw_209 mw_210 mw_211 mw_3 mw_212 hyX1_writeBody (As := [.int v1, .ref (ex_ad E (gx_r u3 v0 1))]) (rest := []) rfl rfl (Nat.le_of_ble_eq_true rfl) dX6_plainBody_22) (fun u6 h => ?_)
    refine gx_aload_n X (j := 0) dX6_plainBody_25 rfl rfl ?_
    refine gx_get X k1 rfl iwX6 1 (by decide) mw_105 (v := .ref (ex_ad E (gx_r u6 v0 1))) rfl dX6_plainBody_26 ?_
    obtain ⟨k7, h⟩ := h
    refine gx_ki (gx_rV X (c_X0_size h) (Nat.le_trans (by decide) hd) (Nat.le_trans (by decide) (Nat.mul_le_mul_left 40 hd)) k7 rfl mw_127 mw_128 mw_129 mw_2 mw_130 hyX0_size (As := []) (rest := []) rfl rfl (Nat.le_of_ble_eq_true rfl) dX6_plainBody_29) (fun r9 u8 h => ?_)
    exact gx_iret X hQ h dX6_plainBody_32
  · replace h := h.2 c10
    refine gx_bipush X (v := -2) dX6_plainBody_10 (by decide) ?_
    exact gx_iret X hQ h dX6_plainBody_12
theorem c_X6_plainBody {l : Launch} {Z : gx_Z} {u : gx_S} {v0 : Nat} {v1 : Int32} {post : Int32 → gx_S → Prop} (h : S_X6_plainBody u v0 v1 post) : Met l yX6_plainBody (Cond.code yX6_plainBody cX6_plainBody 2 (some .int) :: gx_TB) (gx_rm 3) (gx_Pre Z u [.ref (Z.2.1 v0), .int v1]) (va_Qi post (gx_B Z) (gx_A Z)) 0 0 (gx_A Z) := by
  refine gx_met (by decide +kernel) (Nat.le_of_ble_eq_true rfl) ?_
  intro E X hZ hQ hD hL
  subst hZ
  exact w_X6_plainBody X (Nat.le_of_eq hD.symm) hQ h
-- PlainSeal.plainField(IZ)I
theorem dX6_plainField_0 : decode cX6_plainField 0 = .ok (.aload_n 0, 1) := by decide +kernel
theorem dX6_plainField_1 : decode cX6_plainField 1 = .ok (.getfield 22, 3) := by decide +kernel
theorem dX6_plainField_4 : decode cX6_plainField 4 = .ok (.iload_n 1, 1) := by decide +kernel
theorem dX6_plainField_5 : decode cX6_plainField 5 = .ok (.invokevirtual 73, 3) := by decide +kernel
theorem dX6_plainField_8 : decode cX6_plainField 8 = .ok (.ifCond .ne 6, 3) := by decide +kernel
theorem dX6_plainField_11 : decode cX6_plainField 11 = .ok (.bipush (-2), 2) := by decide +kernel
theorem dX6_plainField_13 : decode cX6_plainField 13 = .ok (.ireturn, 1) := by decide +kernel
theorem dX6_plainField_14 : decode cX6_plainField 14 = .ok (.iload_n 2, 1) := by decide +kernel
theorem dX6_plainField_15 : decode cX6_plainField 15 = .ok (.ifCond .eq 18, 3) := by decide +kernel
theorem dX6_plainField_18 : decode cX6_plainField 18 = .ok (.aload_n 0, 1) := by decide +kernel
theorem dX6_plainField_19 : decode cX6_plainField 19 = .ok (.getfield 22, 3) := by decide +kernel
theorem dX6_plainField_22 : decode cX6_plainField 22 = .ok (.iload_n 1, 1) := by decide +kernel
theorem dX6_plainField_23 : decode cX6_plainField 23 = .ok (.aload_n 0, 1) := by decide +kernel
theorem dX6_plainField_24 : decode cX6_plainField 24 = .ok (.getfield 16, 3) := by decide +kernel
theorem dX6_plainField_27 : decode cX6_plainField 27 = .ok (.invokevirtual 77, 3) := by decide +kernel
theorem dX6_plainField_30 : decode cX6_plainField 30 = .ok (.goto 15, 3) := by decide +kernel
theorem dX6_plainField_33 : decode cX6_plainField 33 = .ok (.aload_n 0, 1) := by decide +kernel
theorem dX6_plainField_34 : decode cX6_plainField 34 = .ok (.getfield 22, 3) := by decide +kernel
theorem dX6_plainField_37 : decode cX6_plainField 37 = .ok (.iload_n 1, 1) := by decide +kernel
theorem dX6_plainField_38 : decode cX6_plainField 38 = .ok (.aload_n 0, 1) := by decide +kernel
theorem dX6_plainField_39 : decode cX6_plainField 39 = .ok (.getfield 16, 3) := by decide +kernel
theorem dX6_plainField_42 : decode cX6_plainField 42 = .ok (.invokevirtual 81, 3) := by decide +kernel
theorem dX6_plainField_45 : decode cX6_plainField 45 = .ok (.aload_n 0, 1) := by decide +kernel
theorem dX6_plainField_46 : decode cX6_plainField 46 = .ok (.getfield 16, 3) := by decide +kernel
theorem dX6_plainField_49 : decode cX6_plainField 49 = .ok (.invokevirtual 47, 3) := by decide +kernel
theorem dX6_plainField_52 : decode cX6_plainField 52 = .ok (.ireturn, 1) := by decide +kernel
theorem hyX6_plainField : yX6_plainField.cls ≠ "java/lang/invoke/MethodHandle" ∧ yX6_plainField.cls ≠ "java/lang/invoke/VarHandle" ∧ (parseMethodDescriptor yX6_plainField.desc).map (fun d => d.parameters.length) = some 2 := by decide +kernel
def S_X6_plainField (u : gx_S) (v0 : Nat) (v1 : Int32) (v2 : Int32) (post : Int32 → gx_S → Prop) : Prop := (gx_isO v0 5 ∧ (gx_isO (gx_r u v0 2) 1 ∧ S_X1_hasField u (gx_r u v0 2) v1 (fun (r4 : Int32) (u3 : gx_S) => ((¬ r4 = 0 → ((v2 = 0 → (gx_isO (gx_r u3 v0 2) 1 ∧ S_X1_writeSimpleField u3 (gx_r u3 v0 2) v1 (gx_r u3 v0 1) (fun (u6 : gx_S) => (gx_isO (gx_r u6 v0 1) 0 ∧ S_X0_size u6 (gx_r u6 v0 1) (fun (r9 : Int32) (u8 : gx_S) => post r9 u8))))) ∧ (¬ v2 = 0 → (gx_isO (gx_r u3 v0 2) 1 ∧ S_X1_writeRelaxedField u3 (gx_r u3 v0 2) v1 (gx_r u3 v0 1) (fun (u11 : gx_S) => (gx_isO (gx_r u11 v0 1) 0 ∧ S_X0_size u11 (gx_r u11 v0 1) (fun (r14 : Int32) (u13 : gx_S) => post r14 u13))))))) ∧ (r4 = 0 → post (-2 : Int32) u3)))))
set_option maxHeartbeats 4000000 in
set_option maxRecDepth 100000 in
theorem w_X6_plainField {E : gx_E} (X : gx_X E cX6_plainField 3 RX6 (some .int)) (hd : 4 ≤ ex_d E) {post : Int32 → gx_S → Prop} (hQ : ex_Q E = va_Qi post (gx_B (ex_Z E)) (gx_A (ex_Z E))) {u : gx_S} {v0 : Nat} {v1 : Int32} {v2 : Int32} (h : S_X6_plainField u v0 v1 v2 post) : gx_Wc E 3 0 [(0, .ref (ex_ad E v0)), (1, .int v1), (2, .int v2)] [] u := by
  unfold S_X6_plainField at h
  refine gx_aload_n X (j := 0) dX6_plainField_0 rfl rfl ?_
  obtain ⟨k1, h⟩ := h
  refine gx_get X k1 rfl iwX6 2 (by decide) mw_106 (v := .ref (ex_ad E (gx_r u v0 2))) rfl dX6_plainField_1 ?_
  refine gx_iload_n X (j := 1) dX6_plainField_4 rfl rfl ?_
  obtain ⟨k2, h⟩ := h
  refine gx_ki (gx_rV X (c_X1_hasField h) (Nat.le_trans (by decide) hd) (Nat.le_trans (by decide) (Nat.mul_le_mul_left 40 hd)) k2 rfl mw_223 mw_224 mw_225 mw_3 mw_226 hyX1_hasField (As := [.int v1]) (rest := []) rfl rfl (Nat.le_of_ble_eq_true rfl) dX6_plainField_5) (fun r4 u3 h => ?_)
  refine gx_if_ne X (tgt := 14) dX6_plainField_8 (by decide) (fun c16 => ?_) (fun c16 => ?_)
  · replace h := h.1 c16
    refine gx_iload_n X (j := 2) dX6_plainField_14 rfl rfl ?_
    refine gx_if_eq X (tgt := 33) dX6_plainField_15 (by decide) (fun c15 => ?_) (fun c15 => ?_)
    · replace h := h.1 c15
      refine gx_aload_n X (j := 0) dX6_plainField_33 rfl rfl ?_
      refine gx_get X k1 rfl iwX6 2 (by decide) mw_106 (v := .ref (ex_ad E (gx_r u3 v0 2))) rfl dX6_plainField_34 ?_
      refine gx_iload_n X (j := 1) dX6_plainField_37 rfl rfl ?_
      refine gx_aload_n X (j := 0) dX6_plainField_38 rfl rfl ?_
      refine gx_get X k1 rfl iwX6 1 (by decide) mw_105 (v := .ref (ex_ad E (gx_r u3 v0 1))) rfl dX6_plainField_39 ?_
      obtain ⟨k5, h⟩ := h
      refine gx_kv (gx_rV X (c_X1_writeSimpleField h) (Nat.le_trans (by decide) hd) (Nat.le_trans (by decide) (Nat.mul_le_mul_left 40 hd)) k5 rfl mw_239 mw_240 mw_241 mw_3 mw_242 hyX1_writeSimpleField (As := [.int v1, .ref (ex_ad E (gx_r u3 v0 1))]) (rest := []) rfl rfl (Nat.le_of_ble_eq_true rfl) dX6_plainField_42) (fun u6 h => ?_)
      refine gx_aload_n X (j := 0) dX6_plainField_45 rfl rfl ?_
      refine gx_get X k1 rfl iwX6 1 (by decide) mw_105 (v := .ref (ex_ad E (gx_r u6 v0 1))) rfl dX6_plainField_46 ?_
      obtain ⟨k7, h⟩ := h
      refine gx_ki (gx_rV X (c_X0_size h) (Nat.le_trans (by decide) hd) (Nat.le_trans (by decide) (Nat.mul_le_mul_left 40 hd)) k7 rfl mw_127 mw_128 mw_129 mw_2 mw_130 hyX0_size (As := []) (rest := []) rfl rfl (Nat.le_of_ble_eq_true rfl) dX6_plainField_49) (fun r9 u8 h => ?_)
      exact gx_iret X hQ h dX6_plainField_52
    · replace h := h.2 c15
      refine gx_aload_n X (j := 0) dX6_plainField_18 rfl rfl ?_
      refine gx_get X k1 rfl iwX6 2 (by decide) mw_106 (v := .ref (ex_ad E (gx_r u3 v0 2))) rfl dX6_plainField_19 ?_
      refine gx_iload_n X (j := 1) dX6_plainField_22 rfl rfl ?_
      refine gx_aload_n X (j := 0) dX6_plainField_23 rfl rfl ?_
      refine gx_get X k1 rfl iwX6 1 (by decide) mw_105 (v := .ref (ex_ad E (gx_r u3 v0 1))) rfl dX6_plainField_24 ?_
      obtain ⟨k10, h⟩ := h
      refine gx_kv (gx_rV X (c_X1_writeRelaxedField h) (Nat.le_trans (by decide) hd) (Nat.le_trans (by decide) (Nat.mul_le_mul_left 40 hd)) k10 rfl mw_227 mw_228 mw_229 mw_3 mw_230 hyX1_writeRelaxedField (As := [.int v1, .ref (ex_ad E (gx_r u3 v0 1))]) (rest := []) rfl rfl (Nat.le_of_ble_eq_true rfl) dX6_plainField_27) (fun u11 h => ?_)
      refine gx_goto X (tgt := 45) dX6_plainField_30 (by decide) ?_
      refine gx_aload_n X (j := 0) dX6_plainField_45 rfl rfl ?_
      refine gx_get X k1 rfl iwX6 1 (by decide) mw_105 (v := .ref (ex_ad E (gx_r u11 v0 1))) rfl dX6_plainField_46 ?_
      obtain ⟨k12, h⟩ := h
      refine gx_ki (gx_rV X (c_X0_size h) (Nat.le_trans (by decide) hd) (Nat.le_trans (by decide) (Nat.mul_le_mul_left 40 hd)) k12 rfl mw_127 mw_128 mw_129 mw_2 mw_130 hyX0_size (As := []) (rest := []) rfl rfl (Nat.le_of_ble_eq_true rfl) dX6_plainField_49) (fun r14 u13 h => ?_)
      exact gx_iret X hQ h dX6_plainField_52
  · replace h := h.2 c16
    refine gx_bipush X (v := -2) dX6_plainField_11 (by decide) ?_
    exact gx_iret X hQ h dX6_plainField_13
theorem c_X6_plainField {l : Launch} {Z : gx_Z} {u : gx_S} {v0 : Nat} {v1 : Int32} {v2 : Int32} {post : Int32 → gx_S → Prop} (h : S_X6_plainField u v0 v1 v2 post) : Met l yX6_plainField (Cond.code yX6_plainField cX6_plainField 3 (some .int) :: gx_TB) (gx_rm 4) (gx_Pre Z u [.ref (Z.2.1 v0), .int v1, .int v2]) (va_Qi post (gx_B Z) (gx_A Z)) 0 0 (gx_A Z) := by
  refine gx_met (by decide +kernel) (Nat.le_of_ble_eq_true rfl) ?_
  intro E X hZ hQ hD hL
  subst hZ
  exact w_X6_plainField X (Nat.le_of_eq hD.symm) hQ h
-- PlainSeal.named()I
theorem dX6_named_0 : decode cX6_named 0 = .ok (.aload_n 0, 1) := by decide +kernel
theorem dX6_named_1 : decode cX6_named 1 = .ok (.getfield 22, 3) := by decide +kernel
theorem dX6_named_4 : decode cX6_named 4 = .ok (.invokevirtual 65, 3) := by decide +kernel
theorem dX6_named_7 : decode cX6_named 7 = .ok (.ifCond .eq 8, 3) := by decide +kernel
theorem dX6_named_10 : decode cX6_named 10 = .ok (.bipush (-2), 2) := by decide +kernel
theorem dX6_named_12 : decode cX6_named 12 = .ok (.goto 14, 3) := by decide +kernel
theorem dX6_named_15 : decode cX6_named 15 = .ok (.aload_n 0, 1) := by decide +kernel
theorem dX6_named_16 : decode cX6_named 16 = .ok (.getfield 22, 3) := by decide +kernel
theorem dX6_named_19 : decode cX6_named 19 = .ok (.aload_n 0, 1) := by decide +kernel
theorem dX6_named_20 : decode cX6_named 20 = .ok (.getfield 10, 3) := by decide +kernel
theorem dX6_named_23 : decode cX6_named 23 = .ok (.invokevirtual 84, 3) := by decide +kernel
theorem dX6_named_26 : decode cX6_named 26 = .ok (.istore_n 1, 1) := by decide +kernel
theorem dX6_named_27 : decode cX6_named 27 = .ok (.aload_n 0, 1) := by decide +kernel
theorem dX6_named_28 : decode cX6_named 28 = .ok (.getfield 10, 3) := by decide +kernel
theorem dX6_named_31 : decode cX6_named 31 = .ok (.invokevirtual 62, 3) := by decide +kernel
theorem dX6_named_34 : decode cX6_named 34 = .ok (.iload_n 1, 1) := by decide +kernel
theorem dX6_named_35 : decode cX6_named 35 = .ok (.ireturn, 1) := by decide +kernel
theorem hyX6_named : yX6_named.cls ≠ "java/lang/invoke/MethodHandle" ∧ yX6_named.cls ≠ "java/lang/invoke/VarHandle" ∧ (parseMethodDescriptor yX6_named.desc).map (fun d => d.parameters.length) = some 0 := by decide +kernel
def S_X6_named (u : gx_S) (v0 : Nat) (post : Int32 → gx_S → Prop) : Prop := (gx_isO v0 5 ∧ (gx_isO (gx_r u v0 2) 1 ∧ S_X1_isMissing u (gx_r u v0 2) (fun (r4 : Int32) (u3 : gx_S) => ((r4 = 0 → (gx_isO (gx_r u3 v0 2) 1 ∧ S_X1_countNamed u3 (gx_r u3 v0 2) (gx_r u3 v0 0) (fun (r7 : Int32) (u6 : gx_S) => (gx_isO (gx_r u6 v0 0) 0 ∧ S_X0_clear u6 (gx_r u6 v0 0) (fun (u9 : gx_S) => post r7 u9))))) ∧ (¬ r4 = 0 → (gx_isO (gx_r u3 v0 0) 0 ∧ S_X0_clear u3 (gx_r u3 v0 0) (fun (u11 : gx_S) => post (-2 : Int32) u11)))))))
set_option maxHeartbeats 4000000 in
set_option maxRecDepth 100000 in
theorem w_X6_named {E : gx_E} (X : gx_X E cX6_named 2 RX6 (some .int)) (hd : 5 ≤ ex_d E) {post : Int32 → gx_S → Prop} (hQ : ex_Q E = va_Qi post (gx_B (ex_Z E)) (gx_A (ex_Z E))) {u : gx_S} {v0 : Nat} (h : S_X6_named u v0 post) : gx_Wc E 2 0 [(0, .ref (ex_ad E v0))] [] u := by
  unfold S_X6_named at h
  refine gx_aload_n X (j := 0) dX6_named_0 rfl rfl ?_
  obtain ⟨k1, h⟩ := h
  refine gx_get X k1 rfl iwX6 2 (by decide) mw_106 (v := .ref (ex_ad E (gx_r u v0 2))) rfl dX6_named_1 ?_
  obtain ⟨k2, h⟩ := h
  refine gx_ki (gx_rV X (c_X1_isMissing h) (Nat.le_trans (by decide) hd) (Nat.le_trans (by decide) (Nat.mul_le_mul_left 40 hd)) k2 rfl mw_205 mw_206 mw_207 mw_3 mw_208 hyX1_isMissing (As := []) (rest := []) rfl rfl (Nat.le_of_ble_eq_true rfl) dX6_named_4) (fun r4 u3 h => ?_)
  refine gx_if_eq X (tgt := 15) dX6_named_7 (by decide) (fun c12 => ?_) (fun c12 => ?_)
  · replace h := h.1 c12
    refine gx_aload_n X (j := 0) dX6_named_15 rfl rfl ?_
    refine gx_get X k1 rfl iwX6 2 (by decide) mw_106 (v := .ref (ex_ad E (gx_r u3 v0 2))) rfl dX6_named_16 ?_
    refine gx_aload_n X (j := 0) dX6_named_19 rfl rfl ?_
    refine gx_get X k1 rfl iwX6 0 (by decide) mw_104 (v := .ref (ex_ad E (gx_r u3 v0 0))) rfl dX6_named_20 ?_
    obtain ⟨k5, h⟩ := h
    refine gx_ki (gx_rV X (c_X1_countNamed h) (Nat.le_trans (by decide) hd) (Nat.le_trans (by decide) (Nat.mul_le_mul_left 40 hd)) k5 rfl mw_248 mw_249 mw_250 mw_3 mw_251 hyX1_countNamed (As := [.ref (ex_ad E (gx_r u3 v0 0))]) (rest := []) rfl rfl (Nat.le_of_ble_eq_true rfl) dX6_named_23) (fun r7 u6 h => ?_)
    refine gx_istore_n X (lv' := [(1, .int r7), (0, .ref (ex_ad E v0))]) dX6_named_26 rfl (by decide) rfl ?_
    refine gx_aload_n X (j := 1) dX6_named_27 rfl rfl ?_
    refine gx_get X k1 rfl iwX6 0 (by decide) mw_104 (v := .ref (ex_ad E (gx_r u6 v0 0))) rfl dX6_named_28 ?_
    obtain ⟨k8, h⟩ := h
    refine gx_kv (gx_rV X (c_X0_clear h) (Nat.le_trans (by decide) hd) (Nat.le_trans (by decide) (Nat.mul_le_mul_left 40 hd)) k8 rfl mw_200 mw_192 mw_193 mw_2 mw_194 hyX0_clear (As := []) (rest := []) rfl rfl (Nat.le_of_ble_eq_true rfl) dX6_named_31) (fun u9 h => ?_)
    refine gx_iload_n X (j := 0) dX6_named_34 rfl rfl ?_
    exact gx_iret X hQ h dX6_named_35
  · replace h := h.2 c12
    refine gx_bipush X (v := -2) dX6_named_10 (by decide) ?_
    refine gx_goto X (tgt := 26) dX6_named_12 (by decide) ?_
    refine gx_istore_n X (lv' := [(1, .int (-2 : Int32)), (0, .ref (ex_ad E v0))]) dX6_named_26 rfl (by decide) rfl ?_
    refine gx_aload_n X (j := 1) dX6_named_27 rfl rfl ?_
    refine gx_get X k1 rfl iwX6 0 (by decide) mw_104 (v := .ref (ex_ad E (gx_r u3 v0 0))) rfl dX6_named_28 ?_
    obtain ⟨k10, h⟩ := h
    refine gx_kv (gx_rV X (c_X0_clear h) (Nat.le_trans (by decide) hd) (Nat.le_trans (by decide) (Nat.mul_le_mul_left 40 hd)) k10 rfl mw_200 mw_192 mw_193 mw_2 mw_194 hyX0_clear (As := []) (rest := []) rfl rfl (Nat.le_of_ble_eq_true rfl) dX6_named_31) (fun u11 h => ?_)
    refine gx_iload_n X (j := 0) dX6_named_34 rfl rfl ?_
    exact gx_iret X hQ h dX6_named_35
theorem c_X6_named {l : Launch} {Z : gx_Z} {u : gx_S} {v0 : Nat} {post : Int32 → gx_S → Prop} (h : S_X6_named u v0 post) : Met l yX6_named (Cond.code yX6_named cX6_named 2 (some .int) :: gx_TB) (gx_rm 5) (gx_Pre Z u [.ref (Z.2.1 v0)]) (va_Qi post (gx_B Z) (gx_A Z)) 0 0 (gx_A Z) := by
  refine gx_met (by decide +kernel) (Nat.le_of_ble_eq_true rfl) ?_
  intro E X hZ hQ hD hL
  subst hZ
  exact w_X6_named X (Nat.le_of_eq hD.symm) hQ h
-- PlainSeal.tags()I
theorem dX6_tags_0 : decode cX6_tags 0 = .ok (.aload_n 0, 1) := by decide +kernel
theorem dX6_tags_1 : decode cX6_tags 1 = .ok (.getfield 29, 3) := by decide +kernel
theorem dX6_tags_4 : decode cX6_tags 4 = .ok (.aload_n 0, 1) := by decide +kernel
theorem dX6_tags_5 : decode cX6_tags 5 = .ok (.getfield 10, 3) := by decide +kernel
theorem dX6_tags_8 : decode cX6_tags 8 = .ok (.invokevirtual 87, 3) := by decide +kernel
theorem dX6_tags_11 : decode cX6_tags 11 = .ok (.istore_n 1, 1) := by decide +kernel
theorem dX6_tags_12 : decode cX6_tags 12 = .ok (.aload_n 0, 1) := by decide +kernel
theorem dX6_tags_13 : decode cX6_tags 13 = .ok (.getfield 10, 3) := by decide +kernel
theorem dX6_tags_16 : decode cX6_tags 16 = .ok (.invokevirtual 62, 3) := by decide +kernel
theorem dX6_tags_19 : decode cX6_tags 19 = .ok (.iload_n 1, 1) := by decide +kernel
theorem dX6_tags_20 : decode cX6_tags 20 = .ok (.ireturn, 1) := by decide +kernel
theorem hyX6_tags : yX6_tags.cls ≠ "java/lang/invoke/MethodHandle" ∧ yX6_tags.cls ≠ "java/lang/invoke/VarHandle" ∧ (parseMethodDescriptor yX6_tags.desc).map (fun d => d.parameters.length) = some 0 := by decide +kernel
def S_X6_tags (u : gx_S) (v0 : Nat) (post : Int32 → gx_S → Prop) : Prop := (gx_isO v0 5 ∧ (gx_isO (gx_r u v0 3) 4 ∧ S_X5_read u (gx_r u v0 3) (gx_r u v0 0) (fun (r4 : Int32) (u3 : gx_S) => (gx_isO (gx_r u3 v0 0) 0 ∧ S_X0_clear u3 (gx_r u3 v0 0) (fun (u6 : gx_S) => post r4 u6)))))
set_option maxHeartbeats 4000000 in
set_option maxRecDepth 100000 in
theorem w_X6_tags {E : gx_E} (X : gx_X E cX6_tags 2 RX6 (some .int)) (hd : 5 ≤ ex_d E) {post : Int32 → gx_S → Prop} (hQ : ex_Q E = va_Qi post (gx_B (ex_Z E)) (gx_A (ex_Z E))) {u : gx_S} {v0 : Nat} (h : S_X6_tags u v0 post) : gx_Wc E 2 0 [(0, .ref (ex_ad E v0))] [] u := by
  unfold S_X6_tags at h
  refine gx_aload_n X (j := 0) dX6_tags_0 rfl rfl ?_
  obtain ⟨k1, h⟩ := h
  refine gx_get X k1 rfl iwX6 3 (by decide) mw_107 (v := .ref (ex_ad E (gx_r u v0 3))) rfl dX6_tags_1 ?_
  refine gx_aload_n X (j := 0) dX6_tags_4 rfl rfl ?_
  refine gx_get X k1 rfl iwX6 0 (by decide) mw_104 (v := .ref (ex_ad E (gx_r u v0 0))) rfl dX6_tags_5 ?_
  obtain ⟨k2, h⟩ := h
  refine gx_ki (gx_rV X (c_X5_read h) (Nat.le_trans (by decide) hd) (Nat.le_trans (by decide) (Nat.mul_le_mul_left 40 hd)) k2 rfl mw_260 mw_261 mw_262 mw_4 mw_263 hyX5_read (As := [.ref (ex_ad E (gx_r u v0 0))]) (rest := []) rfl rfl (Nat.le_of_ble_eq_true rfl) dX6_tags_8) (fun r4 u3 h => ?_)
  refine gx_istore_n X (lv' := [(1, .int r4), (0, .ref (ex_ad E v0))]) dX6_tags_11 rfl (by decide) rfl ?_
  refine gx_aload_n X (j := 1) dX6_tags_12 rfl rfl ?_
  refine gx_get X k1 rfl iwX6 0 (by decide) mw_104 (v := .ref (ex_ad E (gx_r u3 v0 0))) rfl dX6_tags_13 ?_
  obtain ⟨k5, h⟩ := h
  refine gx_kv (gx_rV X (c_X0_clear h) (Nat.le_trans (by decide) hd) (Nat.le_trans (by decide) (Nat.mul_le_mul_left 40 hd)) k5 rfl mw_200 mw_192 mw_193 mw_2 mw_194 hyX0_clear (As := []) (rest := []) rfl rfl (Nat.le_of_ble_eq_true rfl) dX6_tags_16) (fun u6 h => ?_)
  refine gx_iload_n X (j := 0) dX6_tags_19 rfl rfl ?_
  exact gx_iret X hQ h dX6_tags_20
theorem c_X6_tags {l : Launch} {Z : gx_Z} {u : gx_S} {v0 : Nat} {post : Int32 → gx_S → Prop} (h : S_X6_tags u v0 post) : Met l yX6_tags (Cond.code yX6_tags cX6_tags 2 (some .int) :: gx_TB) (gx_rm 5) (gx_Pre Z u [.ref (Z.2.1 v0)]) (va_Qi post (gx_B Z) (gx_A Z)) 0 0 (gx_A Z) := by
  refine gx_met (by decide +kernel) (Nat.le_of_ble_eq_true rfl) ?_
  intro E X hZ hQ hD hL
  subst hZ
  exact w_X6_tags X (Nat.le_of_eq hD.symm) hQ h
-- PlainSeal.tag()I
theorem dX6_tag_0 : decode cX6_tag 0 = .ok (.aload_n 0, 1) := by decide +kernel
theorem dX6_tag_1 : decode cX6_tag 1 = .ok (.getfield 29, 3) := by decide +kernel
theorem dX6_tag_4 : decode cX6_tag 4 = .ok (.aload_n 0, 1) := by decide +kernel
theorem dX6_tag_5 : decode cX6_tag 5 = .ok (.getfield 10, 3) := by decide +kernel
theorem dX6_tag_8 : decode cX6_tag 8 = .ok (.aload_n 0, 1) := by decide +kernel
theorem dX6_tag_9 : decode cX6_tag 9 = .ok (.getfield 16, 3) := by decide +kernel
theorem dX6_tag_12 : decode cX6_tag 12 = .ok (.invokevirtual 88, 3) := by decide +kernel
theorem dX6_tag_15 : decode cX6_tag 15 = .ok (.istore_n 1, 1) := by decide +kernel
theorem dX6_tag_16 : decode cX6_tag 16 = .ok (.aload_n 0, 1) := by decide +kernel
theorem dX6_tag_17 : decode cX6_tag 17 = .ok (.getfield 10, 3) := by decide +kernel
theorem dX6_tag_20 : decode cX6_tag 20 = .ok (.invokevirtual 62, 3) := by decide +kernel
theorem dX6_tag_23 : decode cX6_tag 23 = .ok (.iload_n 1, 1) := by decide +kernel
theorem dX6_tag_24 : decode cX6_tag 24 = .ok (.ireturn, 1) := by decide +kernel
theorem hyX6_tag : yX6_tag.cls ≠ "java/lang/invoke/MethodHandle" ∧ yX6_tag.cls ≠ "java/lang/invoke/VarHandle" ∧ (parseMethodDescriptor yX6_tag.desc).map (fun d => d.parameters.length) = some 0 := by decide +kernel
def S_X6_tag (u : gx_S) (v0 : Nat) (post : Int32 → gx_S → Prop) : Prop := (gx_isO v0 5 ∧ (gx_isO (gx_r u v0 3) 4 ∧ S_X5_writeValue u (gx_r u v0 3) (gx_r u v0 0) (gx_r u v0 1) (fun (r4 : Int32) (u3 : gx_S) => (gx_isO (gx_r u3 v0 0) 0 ∧ S_X0_clear u3 (gx_r u3 v0 0) (fun (u6 : gx_S) => post r4 u6)))))
set_option maxHeartbeats 4000000 in
set_option maxRecDepth 100000 in
theorem w_X6_tag {E : gx_E} (X : gx_X E cX6_tag 2 RX6 (some .int)) (hd : 4 ≤ ex_d E) {post : Int32 → gx_S → Prop} (hQ : ex_Q E = va_Qi post (gx_B (ex_Z E)) (gx_A (ex_Z E))) {u : gx_S} {v0 : Nat} (h : S_X6_tag u v0 post) : gx_Wc E 2 0 [(0, .ref (ex_ad E v0))] [] u := by
  unfold S_X6_tag at h
  refine gx_aload_n X (j := 0) dX6_tag_0 rfl rfl ?_
  obtain ⟨k1, h⟩ := h
  refine gx_get X k1 rfl iwX6 3 (by decide) mw_107 (v := .ref (ex_ad E (gx_r u v0 3))) rfl dX6_tag_1 ?_
  refine gx_aload_n X (j := 0) dX6_tag_4 rfl rfl ?_
  refine gx_get X k1 rfl iwX6 0 (by decide) mw_104 (v := .ref (ex_ad E (gx_r u v0 0))) rfl dX6_tag_5 ?_
  refine gx_aload_n X (j := 0) dX6_tag_8 rfl rfl ?_
  refine gx_get X k1 rfl iwX6 1 (by decide) mw_105 (v := .ref (ex_ad E (gx_r u v0 1))) rfl dX6_tag_9 ?_
  obtain ⟨k2, h⟩ := h
  refine gx_ki (gx_rV X (c_X5_writeValue h) (Nat.le_trans (by decide) hd) (Nat.le_trans (by decide) (Nat.mul_le_mul_left 40 hd)) k2 rfl mw_294 mw_295 mw_296 mw_4 mw_297 hyX5_writeValue (As := [.ref (ex_ad E (gx_r u v0 0)), .ref (ex_ad E (gx_r u v0 1))]) (rest := []) rfl rfl (Nat.le_of_ble_eq_true rfl) dX6_tag_12) (fun r4 u3 h => ?_)
  refine gx_istore_n X (lv' := [(1, .int r4), (0, .ref (ex_ad E v0))]) dX6_tag_15 rfl (by decide) rfl ?_
  refine gx_aload_n X (j := 1) dX6_tag_16 rfl rfl ?_
  refine gx_get X k1 rfl iwX6 0 (by decide) mw_104 (v := .ref (ex_ad E (gx_r u3 v0 0))) rfl dX6_tag_17 ?_
  obtain ⟨k5, h⟩ := h
  refine gx_kv (gx_rV X (c_X0_clear h) (Nat.le_trans (by decide) hd) (Nat.le_trans (by decide) (Nat.mul_le_mul_left 40 hd)) k5 rfl mw_200 mw_192 mw_193 mw_2 mw_194 hyX0_clear (As := []) (rest := []) rfl rfl (Nat.le_of_ble_eq_true rfl) dX6_tag_20) (fun u6 h => ?_)
  refine gx_iload_n X (j := 0) dX6_tag_23 rfl rfl ?_
  exact gx_iret X hQ h dX6_tag_24
theorem c_X6_tag {l : Launch} {Z : gx_Z} {u : gx_S} {v0 : Nat} {post : Int32 → gx_S → Prop} (h : S_X6_tag u v0 post) : Met l yX6_tag (Cond.code yX6_tag cX6_tag 2 (some .int) :: gx_TB) (gx_rm 4) (gx_Pre Z u [.ref (Z.2.1 v0)]) (va_Qi post (gx_B Z) (gx_A Z)) 0 0 (gx_A Z) := by
  refine gx_met (by decide +kernel) (Nat.le_of_ble_eq_true rfl) ?_
  intro E X hZ hQ hD hL
  subst hZ
  exact w_X6_tag X (Nat.le_of_eq hD.symm) hQ h
-- PlainSeal.decode(I)I
theorem dX6_decode_0 : decode cX6_decode 0 = .ok (.iload_n 1, 1) := by decide +kernel
theorem dX6_decode_1 : decode cX6_decode 1 = .ok (.ifCond .lt 10, 3) := by decide +kernel
theorem dX6_decode_4 : decode cX6_decode 4 = .ok (.iload_n 1, 1) := by decide +kernel
theorem dX6_decode_5 : decode cX6_decode 5 = .ok (.sipush 900, 3) := by decide +kernel
theorem dX6_decode_8 : decode cX6_decode 8 = .ok (.if_icmp .le 5, 3) := by decide +kernel
theorem dX6_decode_11 : decode cX6_decode 11 = .ok (.iconst (-1), 1) := by decide +kernel
theorem dX6_decode_12 : decode cX6_decode 12 = .ok (.ireturn, 1) := by decide +kernel
theorem dX6_decode_13 : decode cX6_decode 13 = .ok (.bipush (-2), 2) := by decide +kernel
theorem dX6_decode_15 : decode cX6_decode 15 = .ok (.istore_n 2, 1) := by decide +kernel
theorem dX6_decode_16 : decode cX6_decode 16 = .ok (.iload_n 1, 1) := by decide +kernel
theorem dX6_decode_17 : decode cX6_decode 17 = .ok (.aload_n 0, 1) := by decide +kernel
theorem dX6_decode_18 : decode cX6_decode 18 = .ok (.getfield 10, 3) := by decide +kernel
theorem dX6_decode_21 : decode cX6_decode 21 = .ok (.invokestatic 94, 3) := by decide +kernel
theorem dX6_decode_24 : decode cX6_decode 24 = .ok (.ifCond .eq 17, 3) := by decide +kernel
theorem dX6_decode_27 : decode cX6_decode 27 = .ok (.iload_n 1, 1) := by decide +kernel
theorem dX6_decode_28 : decode cX6_decode 28 = .ok (.aload_n 0, 1) := by decide +kernel
theorem dX6_decode_29 : decode cX6_decode 29 = .ok (.getfield 10, 3) := by decide +kernel
theorem dX6_decode_32 : decode cX6_decode 32 = .ok (.aload_n 0, 1) := by decide +kernel
theorem dX6_decode_33 : decode cX6_decode 33 = .ok (.getfield 16, 3) := by decide +kernel
theorem dX6_decode_36 : decode cX6_decode 36 = .ok (.invokestatic 98, 3) := by decide +kernel
theorem dX6_decode_39 : decode cX6_decode 39 = .ok (.iload_n 1, 1) := by decide +kernel
theorem dX6_decode_40 : decode cX6_decode 40 = .ok (.istore_n 2, 1) := by decide +kernel
theorem dX6_decode_41 : decode cX6_decode 41 = .ok (.aload_n 0, 1) := by decide +kernel
theorem dX6_decode_42 : decode cX6_decode 42 = .ok (.getfield 10, 3) := by decide +kernel
theorem dX6_decode_45 : decode cX6_decode 45 = .ok (.invokevirtual 62, 3) := by decide +kernel
theorem dX6_decode_48 : decode cX6_decode 48 = .ok (.iload_n 2, 1) := by decide +kernel
theorem dX6_decode_49 : decode cX6_decode 49 = .ok (.ireturn, 1) := by decide +kernel
theorem hyX6_decode : yX6_decode.cls ≠ "java/lang/invoke/MethodHandle" ∧ yX6_decode.cls ≠ "java/lang/invoke/VarHandle" ∧ (parseMethodDescriptor yX6_decode.desc).map (fun d => d.parameters.length) = some 1 := by decide +kernel
def S_X6_decode (u : gx_S) (v0 : Nat) (v1 : Int32) (post : Int32 → gx_S → Prop) : Prop := ((v1 < 0 → post (-1 : Int32) u) ∧ (¬ v1 < 0 → ((v1 ≤ (900 : Int32) → (gx_isO v0 5 ∧ (S_X4_areOf u v1 (gx_r u v0 0) (fun (r3 : Int32) (u2 : gx_S) => ((r3 = 0 → (gx_isO (gx_r u2 v0 0) 0 ∧ S_X0_clear u2 (gx_r u2 v0 0) (fun (u5 : gx_S) => post (-2 : Int32) u5))) ∧ (¬ r3 = 0 → (S_X4_write u2 v1 (gx_r u2 v0 0) (gx_r u2 v0 1) (fun (u6 : gx_S) => (gx_isO (gx_r u6 v0 0) 0 ∧ S_X0_clear u6 (gx_r u6 v0 0) (fun (u8 : gx_S) => post v1 u8)))))))))) ∧ (¬ v1 ≤ (900 : Int32) → post (-1 : Int32) u))))
set_option maxHeartbeats 4000000 in
set_option maxRecDepth 100000 in
theorem w_X6_decode {E : gx_E} (X : gx_X E cX6_decode 3 RX6 (some .int)) (hd : 3 ≤ ex_d E) {post : Int32 → gx_S → Prop} (hQ : ex_Q E = va_Qi post (gx_B (ex_Z E)) (gx_A (ex_Z E))) {u : gx_S} {v0 : Nat} {v1 : Int32} (h : S_X6_decode u v0 v1 post) : gx_Wc E 3 0 [(0, .ref (ex_ad E v0)), (1, .int v1)] [] u := by
  unfold S_X6_decode at h
  refine gx_iload_n X (j := 1) dX6_decode_0 rfl rfl ?_
  refine gx_if_lt X (tgt := 11) dX6_decode_1 (by decide) (fun c11 => ?_) (fun c11 => ?_)
  · replace h := h.1 c11
    refine gx_iconst X (v := -1) dX6_decode_11 (by decide) ?_
    exact gx_iret X hQ h dX6_decode_12
  · replace h := h.2 c11
    refine gx_iload_n X (j := 1) dX6_decode_4 rfl rfl ?_
    refine gx_sipush X (v := 900) dX6_decode_5 (by decide) ?_
    refine gx_icmp_le X (tgt := 13) dX6_decode_8 (by decide) (fun c10 => ?_) (fun c10 => ?_)
    · replace h := h.1 c10
      refine gx_bipush X (v := -2) dX6_decode_13 (by decide) ?_
      refine gx_istore_n X (lv' := [(2, .int (-2 : Int32)), (0, .ref (ex_ad E v0)), (1, .int v1)]) dX6_decode_15 rfl (by decide) rfl ?_
      refine gx_iload_n X (j := 2) dX6_decode_16 rfl rfl ?_
      refine gx_aload_n X (j := 1) dX6_decode_17 rfl rfl ?_
      obtain ⟨k1, h⟩ := h
      refine gx_get X k1 rfl iwX6 0 (by decide) mw_104 (v := .ref (ex_ad E (gx_r u v0 0))) rfl dX6_decode_18 ?_
      refine gx_ki (gx_rS X (c_X4_areOf h) (Nat.le_trans (by decide) hd) (Nat.le_trans (by decide) (Nat.mul_le_mul_left 40 hd)) mw_304 mw_305 mw_13 mw_306 hyX4_areOf (As := [.int v1, .ref (ex_ad E (gx_r u v0 0))]) (rest := []) rfl rfl (Nat.le_of_ble_eq_true rfl) dX6_decode_21) (fun r3 u2 h => ?_)
      refine gx_if_eq X (tgt := 41) dX6_decode_24 (by decide) (fun c9 => ?_) (fun c9 => ?_)
      · replace h := h.1 c9
        refine gx_aload_n X (j := 1) dX6_decode_41 rfl rfl ?_
        refine gx_get X k1 rfl iwX6 0 (by decide) mw_104 (v := .ref (ex_ad E (gx_r u2 v0 0))) rfl dX6_decode_42 ?_
        obtain ⟨k4, h⟩ := h
        refine gx_kv (gx_rV X (c_X0_clear h) (Nat.le_trans (by decide) hd) (Nat.le_trans (by decide) (Nat.mul_le_mul_left 40 hd)) k4 rfl mw_200 mw_192 mw_193 mw_2 mw_194 hyX0_clear (As := []) (rest := []) rfl rfl (Nat.le_of_ble_eq_true rfl) dX6_decode_45) (fun u5 h => ?_)
        refine gx_iload_n X (j := 0) dX6_decode_48 rfl rfl ?_
        exact gx_iret X hQ h dX6_decode_49
      · replace h := h.2 c9
        refine gx_iload_n X (j := 2) dX6_decode_27 rfl rfl ?_
        refine gx_aload_n X (j := 1) dX6_decode_28 rfl rfl ?_
        refine gx_get X k1 rfl iwX6 0 (by decide) mw_104 (v := .ref (ex_ad E (gx_r u2 v0 0))) rfl dX6_decode_29 ?_
        refine gx_aload_n X (j := 1) dX6_decode_32 rfl rfl ?_
        refine gx_get X k1 rfl iwX6 1 (by decide) mw_105 (v := .ref (ex_ad E (gx_r u2 v0 1))) rfl dX6_decode_33 ?_
        refine gx_kv (gx_rS X (c_X4_write h) (Nat.le_trans (by decide) hd) (Nat.le_trans (by decide) (Nat.mul_le_mul_left 40 hd)) mw_321 mw_322 mw_13 mw_323 hyX4_write (As := [.int v1, .ref (ex_ad E (gx_r u2 v0 0)), .ref (ex_ad E (gx_r u2 v0 1))]) (rest := []) rfl rfl (Nat.le_of_ble_eq_true rfl) dX6_decode_36) (fun u6 h => ?_)
        refine gx_iload_n X (j := 2) dX6_decode_39 rfl rfl ?_
        refine gx_istore_n X (lv' := [(2, .int v1), (0, .ref (ex_ad E v0)), (1, .int v1)]) dX6_decode_40 rfl (by decide) rfl ?_
        refine gx_aload_n X (j := 1) dX6_decode_41 rfl rfl ?_
        refine gx_get X k1 rfl iwX6 0 (by decide) mw_104 (v := .ref (ex_ad E (gx_r u6 v0 0))) rfl dX6_decode_42 ?_
        obtain ⟨k7, h⟩ := h
        refine gx_kv (gx_rV X (c_X0_clear h) (Nat.le_trans (by decide) hd) (Nat.le_trans (by decide) (Nat.mul_le_mul_left 40 hd)) k7 rfl mw_200 mw_192 mw_193 mw_2 mw_194 hyX0_clear (As := []) (rest := []) rfl rfl (Nat.le_of_ble_eq_true rfl) dX6_decode_45) (fun u8 h => ?_)
        refine gx_iload_n X (j := 0) dX6_decode_48 rfl rfl ?_
        exact gx_iret X hQ h dX6_decode_49
    · replace h := h.2 c10
      refine gx_iconst X (v := -1) dX6_decode_11 (by decide) ?_
      exact gx_iret X hQ h dX6_decode_12
theorem c_X6_decode {l : Launch} {Z : gx_Z} {u : gx_S} {v0 : Nat} {v1 : Int32} {post : Int32 → gx_S → Prop} (h : S_X6_decode u v0 v1 post) : Met l yX6_decode (Cond.code yX6_decode cX6_decode 3 (some .int) :: gx_TB) (gx_rm 3) (gx_Pre Z u [.ref (Z.2.1 v0), .int v1]) (va_Qi post (gx_B Z) (gx_A Z)) 0 0 (gx_A Z) := by
  refine gx_met (by decide +kernel) (Nat.le_of_ble_eq_true rfl) ?_
  intro E X hZ hQ hD hL
  subst hZ
  exact w_X6_decode X (Nat.le_of_eq hD.symm) hQ h
-- PlainSeal.digest()I
theorem dX6_digest_0 : decode cX6_digest 0 = .ok (.aload_n 0, 1) := by decide +kernel
theorem dX6_digest_1 : decode cX6_digest 1 = .ok (.getfield 36, 3) := by decide +kernel
theorem dX6_digest_4 : decode cX6_digest 4 = .ok (.aload_n 0, 1) := by decide +kernel
theorem dX6_digest_5 : decode cX6_digest 5 = .ok (.getfield 10, 3) := by decide +kernel
theorem dX6_digest_8 : decode cX6_digest 8 = .ok (.aload_n 0, 1) := by decide +kernel
theorem dX6_digest_9 : decode cX6_digest 9 = .ok (.getfield 16, 3) := by decide +kernel
theorem dX6_digest_12 : decode cX6_digest 12 = .ok (.invokevirtual 102, 3) := by decide +kernel
theorem dX6_digest_15 : decode cX6_digest 15 = .ok (.aload_n 0, 1) := by decide +kernel
theorem dX6_digest_16 : decode cX6_digest 16 = .ok (.getfield 10, 3) := by decide +kernel
theorem dX6_digest_19 : decode cX6_digest 19 = .ok (.invokevirtual 62, 3) := by decide +kernel
theorem dX6_digest_22 : decode cX6_digest 22 = .ok (.aload_n 0, 1) := by decide +kernel
theorem dX6_digest_23 : decode cX6_digest 23 = .ok (.getfield 16, 3) := by decide +kernel
theorem dX6_digest_26 : decode cX6_digest 26 = .ok (.invokevirtual 47, 3) := by decide +kernel
theorem dX6_digest_29 : decode cX6_digest 29 = .ok (.ireturn, 1) := by decide +kernel
theorem hyX6_digest : yX6_digest.cls ≠ "java/lang/invoke/MethodHandle" ∧ yX6_digest.cls ≠ "java/lang/invoke/VarHandle" ∧ (parseMethodDescriptor yX6_digest.desc).map (fun d => d.parameters.length) = some 0 := by decide +kernel
def S_X6_digest (u : gx_S) (v0 : Nat) (post : Int32 → gx_S → Prop) : Prop := (gx_isO v0 5 ∧ (gx_isO (gx_r u v0 4) 3 ∧ S_X3_write u (gx_r u v0 4) (gx_r u v0 0) (gx_r u v0 1) (fun (u3 : gx_S) => (gx_isO (gx_r u3 v0 0) 0 ∧ S_X0_clear u3 (gx_r u3 v0 0) (fun (u5 : gx_S) => (gx_isO (gx_r u5 v0 1) 0 ∧ S_X0_size u5 (gx_r u5 v0 1) (fun (r8 : Int32) (u7 : gx_S) => post r8 u7)))))))
set_option maxHeartbeats 4000000 in
set_option maxRecDepth 100000 in
theorem w_X6_digest {E : gx_E} (X : gx_X E cX6_digest 1 RX6 (some .int)) (hd : 5 ≤ ex_d E) {post : Int32 → gx_S → Prop} (hQ : ex_Q E = va_Qi post (gx_B (ex_Z E)) (gx_A (ex_Z E))) {u : gx_S} {v0 : Nat} (h : S_X6_digest u v0 post) : gx_Wc E 1 0 [(0, .ref (ex_ad E v0))] [] u := by
  unfold S_X6_digest at h
  refine gx_aload_n X (j := 0) dX6_digest_0 rfl rfl ?_
  obtain ⟨k1, h⟩ := h
  refine gx_get X k1 rfl iwX6 4 (by decide) mw_108 (v := .ref (ex_ad E (gx_r u v0 4))) rfl dX6_digest_1 ?_
  refine gx_aload_n X (j := 0) dX6_digest_4 rfl rfl ?_
  refine gx_get X k1 rfl iwX6 0 (by decide) mw_104 (v := .ref (ex_ad E (gx_r u v0 0))) rfl dX6_digest_5 ?_
  refine gx_aload_n X (j := 0) dX6_digest_8 rfl rfl ?_
  refine gx_get X k1 rfl iwX6 1 (by decide) mw_105 (v := .ref (ex_ad E (gx_r u v0 1))) rfl dX6_digest_9 ?_
  obtain ⟨k2, h⟩ := h
  refine gx_kv (gx_rV X (c_X3_write h) (Nat.le_trans (by decide) hd) (Nat.le_trans (by decide) (Nat.mul_le_mul_left 40 hd)) k2 rfl mw_330 mw_331 mw_332 mw_5 mw_333 hyX3_write (As := [.ref (ex_ad E (gx_r u v0 0)), .ref (ex_ad E (gx_r u v0 1))]) (rest := []) rfl rfl (Nat.le_of_ble_eq_true rfl) dX6_digest_12) (fun u3 h => ?_)
  refine gx_aload_n X (j := 0) dX6_digest_15 rfl rfl ?_
  refine gx_get X k1 rfl iwX6 0 (by decide) mw_104 (v := .ref (ex_ad E (gx_r u3 v0 0))) rfl dX6_digest_16 ?_
  obtain ⟨k4, h⟩ := h
  refine gx_kv (gx_rV X (c_X0_clear h) (Nat.le_trans (by decide) hd) (Nat.le_trans (by decide) (Nat.mul_le_mul_left 40 hd)) k4 rfl mw_200 mw_192 mw_193 mw_2 mw_194 hyX0_clear (As := []) (rest := []) rfl rfl (Nat.le_of_ble_eq_true rfl) dX6_digest_19) (fun u5 h => ?_)
  refine gx_aload_n X (j := 0) dX6_digest_22 rfl rfl ?_
  refine gx_get X k1 rfl iwX6 1 (by decide) mw_105 (v := .ref (ex_ad E (gx_r u5 v0 1))) rfl dX6_digest_23 ?_
  obtain ⟨k6, h⟩ := h
  refine gx_ki (gx_rV X (c_X0_size h) (Nat.le_trans (by decide) hd) (Nat.le_trans (by decide) (Nat.mul_le_mul_left 40 hd)) k6 rfl mw_127 mw_128 mw_129 mw_2 mw_130 hyX0_size (As := []) (rest := []) rfl rfl (Nat.le_of_ble_eq_true rfl) dX6_digest_26) (fun r8 u7 h => ?_)
  exact gx_iret X hQ h dX6_digest_29
theorem c_X6_digest {l : Launch} {Z : gx_Z} {u : gx_S} {v0 : Nat} {post : Int32 → gx_S → Prop} (h : S_X6_digest u v0 post) : Met l yX6_digest (Cond.code yX6_digest cX6_digest 1 (some .int) :: gx_TB) (gx_rm 5) (gx_Pre Z u [.ref (Z.2.1 v0)]) (va_Qi post (gx_B Z) (gx_A Z)) 0 0 (gx_A Z) := by
  refine gx_met (by decide +kernel) (Nat.le_of_ble_eq_true rfl) ?_
  intro E X hZ hQ hD hL
  subst hZ
  exact w_X6_digest X (Nat.le_of_eq hD.symm) hQ h
-- PlainSeal.octet(I)I
theorem dX6_octet_0 : decode cX6_octet 0 = .ok (.iload_n 1, 1) := by decide +kernel
theorem dX6_octet_1 : decode cX6_octet 1 = .ok (.iconst (-1), 1) := by decide +kernel
theorem dX6_octet_2 : decode cX6_octet 2 = .ok (.if_icmp .ne 13, 3) := by decide +kernel
theorem dX6_octet_5 : decode cX6_octet 5 = .ok (.aload_n 0, 1) := by decide +kernel
theorem dX6_octet_6 : decode cX6_octet 6 = .ok (.getfield 16, 3) := by decide +kernel
theorem dX6_octet_9 : decode cX6_octet 9 = .ok (.invokevirtual 47, 3) := by decide +kernel
theorem dX6_octet_12 : decode cX6_octet 12 = .ok (.goto 11, 3) := by decide +kernel
theorem dX6_octet_15 : decode cX6_octet 15 = .ok (.aload_n 0, 1) := by decide +kernel
theorem dX6_octet_16 : decode cX6_octet 16 = .ok (.getfield 16, 3) := by decide +kernel
theorem dX6_octet_19 : decode cX6_octet 19 = .ok (.iload_n 1, 1) := by decide +kernel
theorem dX6_octet_20 : decode cX6_octet 20 = .ok (.invokevirtual 118, 3) := by decide +kernel
theorem dX6_octet_23 : decode cX6_octet 23 = .ok (.ireturn, 1) := by decide +kernel
theorem hyX6_octet : yX6_octet.cls ≠ "java/lang/invoke/MethodHandle" ∧ yX6_octet.cls ≠ "java/lang/invoke/VarHandle" ∧ (parseMethodDescriptor yX6_octet.desc).map (fun d => d.parameters.length) = some 1 := by decide +kernel
def S_X6_octet (u : gx_S) (v0 : Nat) (v1 : Int32) (post : Int32 → gx_S → Prop) : Prop := ((¬ v1 = (-1 : Int32) → (gx_isO v0 5 ∧ (gx_isO (gx_r u v0 1) 0 ∧ S_X0_at u (gx_r u v0 1) v1 (fun (r4 : Int32) (u3 : gx_S) => post r4 u3)))) ∧ (v1 = (-1 : Int32) → (gx_isO v0 5 ∧ (gx_isO (gx_r u v0 1) 0 ∧ S_X0_size u (gx_r u v0 1) (fun (r8 : Int32) (u7 : gx_S) => post r8 u7)))))
set_option maxHeartbeats 4000000 in
set_option maxRecDepth 100000 in
theorem w_X6_octet {E : gx_E} (X : gx_X E cX6_octet 2 RX6 (some .int)) (hd : 1 ≤ ex_d E) {post : Int32 → gx_S → Prop} (hQ : ex_Q E = va_Qi post (gx_B (ex_Z E)) (gx_A (ex_Z E))) {u : gx_S} {v0 : Nat} {v1 : Int32} (h : S_X6_octet u v0 v1 post) : gx_Wc E 2 0 [(0, .ref (ex_ad E v0)), (1, .int v1)] [] u := by
  unfold S_X6_octet at h
  refine gx_iload_n X (j := 1) dX6_octet_0 rfl rfl ?_
  refine gx_iconst X (v := -1) dX6_octet_1 (by decide) ?_
  refine gx_icmp_ne X (tgt := 15) dX6_octet_2 (by decide) (fun c9 => ?_) (fun c9 => ?_)
  · replace h := h.1 c9
    refine gx_aload_n X (j := 0) dX6_octet_15 rfl rfl ?_
    obtain ⟨k1, h⟩ := h
    refine gx_get X k1 rfl iwX6 1 (by decide) mw_105 (v := .ref (ex_ad E (gx_r u v0 1))) rfl dX6_octet_16 ?_
    refine gx_iload_n X (j := 1) dX6_octet_19 rfl rfl ?_
    obtain ⟨k2, h⟩ := h
    refine gx_ki (gx_rV X (c_X0_at h) (Nat.le_trans (by decide) hd) (Nat.le_trans (by decide) (Nat.mul_le_mul_left 40 hd)) k2 rfl mw_426 mw_163 mw_164 mw_2 mw_165 hyX0_at (As := [.int v1]) (rest := []) rfl rfl (Nat.le_of_ble_eq_true rfl) dX6_octet_20) (fun r4 u3 h => ?_)
    exact gx_iret X hQ h dX6_octet_23
  · replace h := h.2 c9
    refine gx_aload_n X (j := 0) dX6_octet_5 rfl rfl ?_
    obtain ⟨k5, h⟩ := h
    refine gx_get X k5 rfl iwX6 1 (by decide) mw_105 (v := .ref (ex_ad E (gx_r u v0 1))) rfl dX6_octet_6 ?_
    obtain ⟨k6, h⟩ := h
    refine gx_ki (gx_rV X (c_X0_size h) (Nat.le_trans (by decide) hd) (Nat.le_trans (by decide) (Nat.mul_le_mul_left 40 hd)) k6 rfl mw_127 mw_128 mw_129 mw_2 mw_130 hyX0_size (As := []) (rest := []) rfl rfl (Nat.le_of_ble_eq_true rfl) dX6_octet_9) (fun r8 u7 h => ?_)
    refine gx_goto X (tgt := 23) dX6_octet_12 (by decide) ?_
    exact gx_iret X hQ h dX6_octet_23
theorem c_X6_octet {l : Launch} {Z : gx_Z} {u : gx_S} {v0 : Nat} {v1 : Int32} {post : Int32 → gx_S → Prop} (h : S_X6_octet u v0 v1 post) : Met l yX6_octet (Cond.code yX6_octet cX6_octet 2 (some .int) :: gx_TB) (gx_rm 1) (gx_Pre Z u [.ref (Z.2.1 v0), .int v1]) (va_Qi post (gx_B Z) (gx_A Z)) 0 0 (gx_A Z) := by
  refine gx_met (by decide +kernel) (Nat.le_of_ble_eq_true rfl) ?_
  intro E X hZ hQ hD hL
  subst hZ
  exact w_X6_octet X (Nat.le_of_eq hD.symm) hQ h
/-- nothing but the class's own cells is new -/
def exC (u v : gx_S) : Prop := (∀ o k, 9 ≤ o → gx_i v o k = gx_i u o k) ∧ v.2.1 = u.2.1 ∧ v.2.2.1 = u.2.2.1 ∧ ∀ a, 21 ≤ a → gx_a v a = gx_a u a
theorem exC_rf (u : gx_S) : exC u u := ⟨fun _ _ _ => rfl, rfl, rfl, fun _ _ => rfl⟩
theorem exC_tr {u v w : gx_S} (h : exC u v) (h2 : exC v w) : exC u w := ⟨fun o k ho => (h2.1 o k ho).trans (h.1 o k ho), h2.2.1.trans h.2.1, h2.2.2.1.trans h.2.2.1, fun a ha => (h2.2.2.2 a ha).trans (h.2.2.2 a ha)⟩
theorem exC_byW {u : gx_S} {o n : Nat} {f : Nat → Int32} (ho : o < 9) (hr : gx_r u o 0 < 21) : exC u (byW u o f n) :=
  ⟨fun p k hp => by rw [byW_i, if_neg (by omega)], rfl, rfl, fun a ha => by rw [byW_a, if_neg (by omega)]⟩
theorem exC_pi {u : gx_S} {o k : Nat} {x : Int32} (ho : o < 9) : exC u (gx_pi u o k x) := ⟨fun p q hp => by rw [gx_i_pi, if_neg (by omega)], rfl, rfl, fun _ _ => rfl⟩
theorem exC_pa {u : gx_S} {a : Nat} {f : Nat → Int32} (ha : a < 21) : exC u (gx_pa u a f) := ⟨fun _ _ _ => rfl, rfl, rfl, fun b hb => by rw [gx_a_pa, if_neg (by omega)]⟩
theorem exC_exA {u v : gx_S} {A : List Nat} (h : exA A u v) (hA : ∀ a ∈ A, a < 21) : exC u v := ⟨fun o k _ => exA_i h o k, h.2.1, h.2.2.1, fun a ha => h.2.2.2 a (fun e => by have := hA a e; omega)⟩
/-- what the class's cells say: the tape T, the out O, the message M of k fields, the tags G -/
def cS (u : gx_S) (T O M : List Nat) (k : Nat) (G : List Nat) : Prop := cfix u ∧ byL u 1 T ∧ byL u 2 O ∧ mlL u M k ∧ byL u 6 G
theorem mlL_W {u : gx_S} {M : List Nat} {k o n : Nat} {f : Nat → Int32} (hf : cfix u) (h : mlL u M k) (ho : o ≠ 4 ∧ o ≠ 3) (hr : gx_r u o 0 ≠ 11 ∧ gx_r u o 0 ≠ 13) : mlL (byW u o f n) M k := by
  obtain ⟨m1, m2, m3, m4⟩ := h
  refine ⟨byL_ne m1 (fun e => ho.1 e.symm) (by rw [hf 4 0 (by decide)]; exact fun e => hr.1 e.symm), ?_, m3, fun j hj => ?_⟩
  · rw [byW_i, if_neg (fun e => ho.2 e.1.symm)]; exact m2
  · rw [byW_a, if_neg (fun e => hr.2 e.symm)]; exact m4 j hj
theorem cS_t {u : gx_S} {T O M G T' : List Nat} {k : Nat} {f : Nat → Int32} (h : cS u T O M k G) (hf : rdb T' f) (hl : T'.length ≤ 2000) : cS (byW u 1 f T'.length) T' O M k G ∧ exC u (byW u 1 f T'.length) := by
  obtain ⟨c0, c1, c2, c3, c4⟩ := h
  have r1 : gx_r u 1 0 = 9 := c0 1 0 (by decide)
  exact ⟨⟨fun o k h => c0 o k h, byL_W c1 hf hl, byL_ne c2 (by decide) (by rw [r1, c0 2 0 (by decide)]; decide), mlL_W c0 c3 (by decide) (by rw [r1]; decide), byL_ne c4 (by decide) (by rw [r1, c0 6 0 (by decide)]; decide)⟩, exC_byW (by decide) (by rw [r1]; decide)⟩
theorem cS_o {u : gx_S} {T O M G T' : List Nat} {k : Nat} {f : Nat → Int32} (h : cS u T O M k G) (hf : rdb T' f) (hl : T'.length ≤ 2000) : cS (byW u 2 f T'.length) T T' M k G ∧ exC u (byW u 2 f T'.length) := by
  obtain ⟨c0, c1, c2, c3, c4⟩ := h
  have r1 : gx_r u 2 0 = 10 := c0 2 0 (by decide)
  exact ⟨⟨fun o k h => c0 o k h, byL_ne c1 (by decide) (by rw [r1, c0 1 0 (by decide)]; decide), byL_W c2 hf hl, mlL_W c0 c3 (by decide) (by rw [r1]; decide), byL_ne c4 (by decide) (by rw [r1, c0 6 0 (by decide)]; decide)⟩, exC_byW (by decide) (by rw [r1]; decide)⟩
theorem cS_g {u : gx_S} {T O M G T' : List Nat} {k : Nat} {f : Nat → Int32} (h : cS u T O M k G) (hf : rdb T' f) (hl : T'.length ≤ 2000) : cS (byW u 6 f T'.length) T O M k T' ∧ exC u (byW u 6 f T'.length) := by
  obtain ⟨c0, c1, c2, c3, c4⟩ := h
  have r1 : gx_r u 6 0 = 12 := c0 6 0 (by decide)
  exact ⟨⟨fun o k h => c0 o k h, byL_ne c1 (by decide) (by rw [r1, c0 1 0 (by decide)]; decide), byL_ne c2 (by decide) (by rw [r1, c0 2 0 (by decide)]; decide), mlL_W c0 c3 (by decide) (by rw [r1]; decide), byL_W c4 hf hl⟩, exC_byW (by decide) (by rw [r1]; decide)⟩
theorem cS_m {u : gx_S} {T O M G M' : List Nat} {k k' : Nat} {f g : Nat → Int32} (h : cS u T O M k G) (hf : rdb M' f) (hl : M'.length ≤ 2000) (hk : k' ≤ 20) (hg : ∀ j, j ≤ k' → g j = nI (plc M' j)) : cS (gx_pa (gx_pi (byW u 4 f M'.length) 3 2 (nI k')) 13 g) T O M' k' G ∧ exC u (gx_pa (gx_pi (byW u 4 f M'.length) 3 2 (nI k')) 13 g) := by
  obtain ⟨c0, c1, c2, c3, c4⟩ := h
  have r1 : gx_r u 4 0 = 11 := c0 4 0 (by decide)
  have cl : ∀ {o L}, byL u o L → o < 9 → o ≠ 4 → o ≠ 3 → gx_r u o 0 ≠ 11 → gx_r u o 0 ≠ 13 → byL (gx_pa (gx_pi (byW u 4 f M'.length) 3 2 (nI k')) 13 g) o L := by
    intro o L hB _ h4 h3 hr hr2
    exact byL_pa (byL_pi (byL_ne hB h4 (by rw [r1]; exact hr)) (fun e => h3 e.1)) hr2
  refine ⟨⟨fun o k h => c0 o k h, cl c1 (by decide) (by decide) (by decide) (by rw [c0 1 0 (by decide)]; decide) (by rw [c0 1 0 (by decide)]; decide), cl c2 (by decide) (by decide) (by decide) (by rw [c0 2 0 (by decide)]; decide) (by rw [c0 2 0 (by decide)]; decide), ⟨?_, ?_, hk, fun j hj => ?_⟩, cl c4 (by decide) (by decide) (by decide) (by rw [c0 6 0 (by decide)]; decide) (by rw [c0 6 0 (by decide)]; decide)⟩, exC_tr (exC_byW (by decide) (by rw [r1]; decide)) (exC_tr (exC_pi (by decide)) (exC_pa (by decide)))⟩
  · exact byL_pa (byL_pi (byL_W c3.1 hf hl) (by decide)) (by show gx_r u 4 0 ≠ 13; rw [r1]; decide)
  · rw [gx_i_pa, gx_i_pi, if_pos ⟨rfl, rfl⟩]
  · rw [gx_a_pa, if_pos rfl]; exact hg j hj
theorem cS_x {u v : gx_S} {T O M G : List Nat} {k : Nat} {A : List Nat} (h : cS u T O M k G) (hx : exA A u v) (hA : ∀ a ∈ A, 14 ≤ a ∧ a < 21) : cS v T O M k G ∧ exC u v := by
  obtain ⟨c0, c1, c2, c3, c4⟩ := h
  have nin : ∀ b, b < 14 → b ∉ A := fun b hb e => by have := hA b e; omega
  refine ⟨⟨exA_cfix hx c0, exA_byL hx c1 (nin _ (by rw [c0 1 0 (by decide)]; decide)), exA_byL hx c2 (nin _ (by rw [c0 2 0 (by decide)]; decide)), ⟨exA_byL hx c3.1 (nin _ (by rw [c0 4 0 (by decide)]; decide)), by rw [exA_i hx]; exact c3.2.1, c3.2.2.1, fun j hj => by rw [hx.2.2.2 13 (nin 13 (by decide))]; exact c3.2.2.2 j hj⟩, exA_byL hx c4 (nin _ (by rw [c0 6 0 (by decide)]; decide))⟩, exC_exA hx (fun a ha => (hA a ha).2)⟩
-- the calls
def fdB (a b c d e : Int32) : List Nat := wB a ++ (wB b ++ (wB c ++ (wB d ++ wB e)))
theorem t_feed {u : gx_S} {T O M G : List Nat} {k : Nat} {a b c d e : Int32} {post : Int32 → gx_S → Prop} (h : cS u T O M k G) (h1 : T.length + 20 ≤ 2000 → ∀ v, exC u v → cS v (T ++ fdB a b c d e) O M k G → post (nI (T.length + 20)) v) (h2 : ¬ T.length + 20 ≤ 2000 → post (-3) u) : S_X6_feed u 0 a b c d e post := by
  have c0 := h.1
  have hT := h.2.1
  have hT2 := hT.2.2.2.2.1
  have r0 : ∀ {v : gx_S}, cfix v → gx_r v 0 0 = 1 := fun hv => hv 0 0 (by decide)
  unfold S_X6_feed
  rw [r0 c0]
  refine ⟨isO_x 0 5 (by decide), hT.1, i_X0_size hT ?_⟩
  rw [show (20 : Int32) = nI 20 from rfl, show (2000 : Int32) = nI 2000 from rfl, nI_add, nI_leI (by omega) (by omega)]
  refine ⟨fun q => ?_, fun q => h2 q⟩
  rw [r0 c0]
  refine ⟨hT.1, i_X0_addWord hT (by omega) (fun f1 g1 => ?_)⟩
  have s1 := cS_t h g1 (by simp [wB]; omega)
  rw [r0 s1.1.1]
  refine ⟨hT.1, i_X0_addWord s1.1.2.1 (by simp [wB]; omega) (fun f2 g2 => ?_)⟩
  have s2 := cS_t s1.1 g2 (by simp [wB]; omega)
  rw [r0 s2.1.1]
  refine ⟨hT.1, i_X0_addWord s2.1.2.1 (by simp [wB]; omega) (fun f3 g3 => ?_)⟩
  have s3 := cS_t s2.1 g3 (by simp [wB]; omega)
  rw [r0 s3.1.1]
  refine ⟨hT.1, i_X0_addWord s3.1.2.1 (by simp [wB]; omega) (fun f4 g4 => ?_)⟩
  have s4 := cS_t s3.1 g4 (by simp [wB]; omega)
  rw [r0 s4.1.1]
  refine ⟨hT.1, i_X0_addWord s4.1.2.1 (by simp [wB]; omega) (fun f5 g5 => ?_)⟩
  have s5 := cS_t s4.1 g5 (by simp [wB]; omega)
  rw [r0 s5.1.1]
  refine ⟨hT.1, i_X0_size s5.1.2.1 ?_⟩
  have ee : T ++ wB a ++ wB b ++ wB c ++ wB d ++ wB e = T ++ fdB a b c d e := by simp [fdB]
  rw [show (T ++ wB a ++ wB b ++ wB c ++ wB d ++ wB e).length = T.length + 20 by simp [wB]]
  refine h1 q _ (exC_tr s1.2 (exC_tr s2.2 (exC_tr s3.2 (exC_tr s4.2 ?_)))) ?_
  · have := s5.2
    rwa [show (T ++ wB a ++ wB b ++ wB c ++ wB d ++ wB e).length = T.length + 20 by simp [wB]] at this
  · have := s5.1
    rwa [show (T ++ wB a ++ wB b ++ wB c ++ wB d ++ wB e).length = T.length + 20 by simp [wB], ee] at this
theorem t_end {u : gx_S} {T O M G : List Nat} {k : Nat} {x : Int32} {post : Int32 → gx_S → Prop} (h : cS u T O M k G) (h1 : ∀ n, n ≤ T.length → x = nI n → ∀ v, exC u v → cS v (T.take n) O M k G → post x v) (h2 : (x < 0 ∨ nI T.length < x) → post (-1) u) : S_X6_end u 0 x post := by
  have c0 := h.1
  have hT := h.2.1
  have hT2 := hT.2.2.2.2.1
  refine ⟨fun q => h2 (Or.inl q), fun q => ?_⟩
  rw [c0 0 0 (by decide)]
  refine ⟨isO_x 0 5 (by decide), hT.1, i_X0_size hT ⟨fun q2 => ?_, fun q2 => ?_⟩⟩
  · obtain ⟨n, hn, rfl⟩ := nI_of2 (nI_toInt (by omega)) q q2
    rw [c0 0 0 (by decide)]
    refine ⟨hT.1, i_X0_cutTo hT (by omega) (fun f hf => ?_)⟩
    have s := cS_t h hf (by rw [List.length_take]; omega)
    exact h1 n hn rfl _ s.2 s.1
  · exact h2 (Or.inr (Int32.not_le.mp q2))
theorem t_clear {u : gx_S} {T O M G : List Nat} {k : Nat} {post : gx_S → Prop} (h : cS u T O M k G) (h1 : ∀ v, exC u v → cS v [] O M k G → post v) : S_X0_clear u 1 post := by
  refine i_X0_clear h.2.1 (fun f hf => ?_)
  have s := cS_t h hf (by simp)
  exact h1 _ s.2 s.1
theorem t_message {u : gx_S} {T O M G : List Nat} {k : Nat} {post : Int32 → gx_S → Prop} (h : cS u T O M k G) (h1 : cnt T ≠ 0 → ∀ v, exC u v → cS v [] O T (cnt T) G → post (nI (cnt T)) v) (h2 : cnt T = 0 → ∀ v, exC u v → cS v [] O M k G → post (-1) v) : S_X6_message u 0 post := by
  have c0 := h.1
  have hT := h.2.1
  unfold S_X6_message
  rw [show gx_r u 0 2 = 3 from c0 0 2 (by decide), show gx_r u 0 0 = 1 from c0 0 0 (by decide)]
  refine ⟨isO_x 0 5 (by decide), isO_x 3 1 (by decide), rfl, rfl, c0, T, M, hT, h.2.2.2.1.1, h.2.2.2.1.2.2.2 0 (by omega), fun q => ?_, fun q f g hf hg => ?_⟩
  · try dsimp only
    rw [show gx_r u 0 0 = 1 from c0 0 0 (by decide)]
    exact ⟨hT.1, t_clear h (fun v hv hs => h2 q v hv hs)⟩
  · try dsimp only
    have s := cS_m h hf hT.2.2.2.2.1 (cnt_le T) hg
    rw [show gx_r (gx_pa (gx_pi (byW u 4 f T.length) 3 2 (nI (cnt T))) 13 g) 0 0 = 1 from s.1.1 0 0 (by decide)]
    exact ⟨hT.1, t_clear s.1 (fun v hv hs => h1 q v (exC_tr s.2 hv) hs)⟩
theorem t_plainBody {u : gx_S} {T O M G : List Nat} {k : Nat} {rel : Bool} {post : Int32 → gx_S → Prop} (h : cS u T O M k G) (hl : (bodyO M rel (plc M k + 1)).length ≤ 2000) (h1 : k ≠ 0 → ∀ v, exC u v → cS v T (bodyO M rel (plc M k + 1)) M k G → post (nI (bodyO M rel (plc M k + 1)).length) v) (h2 : k = 0 → post (-2) u) : S_X6_plainBody u 0 (b2 rel) post := by
  have c0 := h.1
  have m := h.2.2.2.1
  have hk := m.2.2.1
  unfold S_X6_plainBody
  rw [show gx_r u 0 2 = 3 from c0 0 2 (by decide)]
  refine ⟨isO_x 0 5 (by decide), isO_x 3 1 (by decide), isO_x 3 1 (by decide), ⟨fun q => ?_, fun q => ?_⟩⟩
  · rw [m.2.1] at q
    have hk0 : k ≠ 0 := fun e => q (by rw [e]; rfl)
    refine ⟨fun _ => ?_, fun z => absurd z (by decide)⟩
    rw [show gx_r u 0 2 = 3 from c0 0 2 (by decide), show gx_r u 0 1 = 2 from c0 0 1 (by decide)]
    refine ⟨isO_x 3 1 (by decide), rfl, rfl, c0, M, O, k, rel, m, h.2.2.1, rfl, fun f hf => ?_⟩
    have s := cS_o h hf hl
    try dsimp only
    rw [show gx_r (byW u 2 f (bodyO M rel (plc M k + 1)).length) 0 1 = 2 from c0 0 1 (by decide)]
    exact ⟨h.2.2.1.1, i_X0_size s.1.2.2.1 (h1 hk0 _ s.2 s.1)⟩
  · rw [m.2.1] at q
    exact ⟨fun z => absurd z (by decide), fun _ => h2 ((nI_eq (b := 0) (by omega) (by omega)).mp q)⟩
theorem t_plainField {u : gx_S} {T O M G : List Nat} {k : Nat} {x : Int32} {rel : Bool} {post : Int32 → gx_S → Prop} (h : cS u T O M k G) (hp : ∀ j, j < k → 0 < plc M (j + 1)) (hl1 : ∀ j, j < k → (rfO M (plc M j) (plc M (j + 1))).length ≤ 2000) (h1 : ∀ j, j < k → x = nI j → ∀ v, exC u v → cS v T (if rel then rfO M (plc M j) (plc M (j + 1)) else sfO M (plc M j) (plc M (j + 1))) M k G → post (nI (if rel then rfO M (plc M j) (plc M (j + 1)) else sfO M (plc M j) (plc M (j + 1))).length) v) (h2 : (x < 0 ∨ nI k ≤ x) → post (-2) u) : S_X6_plainField u 0 x (b2 rel) post := by
  have c0 := h.1
  have m := h.2.2.2.1
  have hk := m.2.2.1
  have hM2 := m.1.2.2.2.2.1
  unfold S_X6_plainField
  rw [show gx_r u 0 2 = 3 from c0 0 2 (by decide)]
  refine ⟨isO_x 0 5 (by decide), isO_x 3 1 (by decide), ⟨fun q => ⟨fun z => absurd rfl z, fun _ => h2 (Or.inl q)⟩, fun q => ⟨isO_x 3 1 (by decide), ⟨fun q2 => ⟨fun z => absurd rfl z, fun _ => h2 (Or.inr (by rw [m.2.1] at q2; exact q2))⟩, fun q2 => ?_⟩⟩⟩⟩
  rw [m.2.1] at q2
  have q3 : x < nI k := Int32.not_le.mp q2
  obtain ⟨j, hj, rfl⟩ := nI_of2 (nI_toInt (n := k) (by omega)) q (Int32.le_of_lt q3)
  have hjk : j < k := (nI_ltI (by omega) (by omega)).mp q3
  have hout : ∀ {N : List Nat} {f : Nat → Int32}, rdb N f → N.length ≤ 2000 → (∀ v, exC u v → cS v T N M k G → post (nI N.length) v) → gx_isO (gx_r (byW u 2 f N.length) 0 1) 0 ∧ S_X0_size (byW u 2 f N.length) (gx_r (byW u 2 f N.length) 0 1) (fun r9 u8 => post r9 u8) := by
    intro N f hf hl hh
    have s := cS_o h hf hl
    rw [show gx_r (byW u 2 f N.length) 0 1 = 2 from c0 0 1 (by decide)]
    exact ⟨h.2.2.1.1, i_X0_size s.1.2.2.1 (hh _ s.2 s.1)⟩
  refine ⟨fun _ => ?_, fun z => absurd z (by decide)⟩
  rw [show gx_r u 0 2 = 3 from c0 0 2 (by decide), show gx_r u 0 1 = 2 from c0 0 1 (by decide)]
  refine ⟨fun z => ?_, fun z => ?_⟩
  · rw [b2_0] at z
    subst z
    refine ⟨isO_x 3 1 (by decide), i_X1_writeSimpleField c0 m hjk h.2.2.1 (hp j hjk) (fun f hf => hout hf ?_ (fun v hv hs => h1 j hjk rfl v hv hs))⟩
    have := plc_le M (j + 1)
    unfold sfO
    rw [List.length_take, List.length_drop]
    split <;> omega
  · have z2 := b2_n0 z
    subst z2
    exact ⟨isO_x 3 1 (by decide), rfl, rfl, c0, M, O, j, k, m, hjk, rfl, h.2.2.1, fun f hf => hout hf (hl1 j hjk) (fun v hv hs => h1 j hjk rfl v hv hs)⟩
theorem t_named {u : gx_S} {T O M G : List Nat} {k : Nat} {post : Int32 → gx_S → Prop} (h : cS u T O M k G) (h1 : k ≠ 0 → ∀ v, exC u v → cS v [] O M k G → post (nI (cnm M T k)) v) (h2 : k = 0 → ∀ v, exC u v → cS v [] O M k G → post (-2) v) : S_X6_named u 0 post := by
  have c0 := h.1
  have m := h.2.2.2.1
  have hk := m.2.2.1
  unfold S_X6_named
  rw [show gx_r u 0 2 = 3 from c0 0 2 (by decide)]
  refine ⟨isO_x 0 5 (by decide), isO_x 3 1 (by decide), isO_x 3 1 (by decide), ⟨fun q => ?_, fun q => ?_⟩⟩
  · rw [m.2.1] at q
    have hk0 : k ≠ 0 := fun e => q (by rw [e]; rfl)
    refine ⟨fun _ => ?_, fun z => absurd z (by decide)⟩
    rw [show gx_r u 0 2 = 3 from c0 0 2 (by decide), show gx_r u 0 0 = 1 from c0 0 0 (by decide)]
    refine ⟨isO_x 3 1 (by decide), rfl, c0, M, T, k, m, h.2.1, ?_⟩
    try dsimp only
    rw [show gx_r u 0 0 = 1 from c0 0 0 (by decide)]
    exact ⟨h.2.1.1, t_clear h (fun v hv hs => h1 hk0 v hv hs)⟩
  · rw [m.2.1] at q
    refine ⟨fun z => absurd z (by decide), fun _ => ?_⟩
    rw [show gx_r u 0 0 = 1 from c0 0 0 (by decide)]
    exact ⟨h.2.1.1, t_clear h (fun v hv hs => h2 ((nI_eq (b := 0) (by omega) (by omega)).mp q) v hv hs)⟩
theorem bareT_le (T : List Nat) : (bareT T).length ≤ T.length := by
  have := List.length_filter_le bare T
  unfold bareT
  split
  · rw [List.length_take]; omega
  · exact this
theorem t_tags {u : gx_S} {T O M G : List Nat} {k : Nat} {post : Int32 → gx_S → Prop} (h : cS u T O M k G) (h1 : ct (bareT T) ≠ 0 → ∀ v, exC u v → cS v [] O M k (bareT T) → post (nI (ct (bareT T))) v) (h2 : ct (bareT T) = 0 → ∀ v, exC u v → cS v [] O M k G → post (-1) v) : S_X6_tags u 0 post := by
  have c0 := h.1
  have hT2 := h.2.1.2.2.2.2.1
  have hb := bareT_le T
  unfold S_X6_tags
  rw [show gx_r u 0 3 = 5 from c0 0 3 (by decide), show gx_r u 0 0 = 1 from c0 0 0 (by decide)]
  refine ⟨isO_x 0 5 (by decide), isO_x 5 4 (by decide), i_X5_read c0 h.2.1 h.2.2.2.2 (fun f hf => ?_)⟩
  have s := cS_t h hf (by omega)
  refine ⟨fun q => ?_, fun q g hg => ?_⟩
  · rw [show gx_r (byW u 1 f (bareT T).length) 0 0 = 1 from c0 0 0 (by decide)]
    exact ⟨h.2.1.1, t_clear s.1 (fun v hv hs => h2 q v (exC_tr s.2 hv) hs)⟩
  · have s2 := cS_g s.1 hg (by omega)
    try dsimp only
    rw [show gx_r (byW (byW u 1 f (bareT T).length) 6 g (bareT T).length) 0 0 = 1 from c0 0 0 (by decide)]
    exact ⟨h.2.1.1, t_clear s2.1 (fun v hv hs => h1 q v (exC_tr s.2 (exC_tr s2.2 hv)) hs)⟩
theorem t_tag {u : gx_S} {T O M G : List Nat} {k : Nat} {post : Int32 → gx_S → Prop} (h : cS u T O M k G) (h1 : ∀ w, vo G G.length T 0 T.length = some w → ∀ v, exC u v → cS v [] (tvO G w) M k G → post (nI (tvO G w).length) v) (h2 : vo G G.length T 0 T.length = none → ∀ v, exC u v → cS v [] O M k G → post (-2) v) : S_X6_tag u 0 post := by
  have c0 := h.1
  have hG2 := h.2.2.2.2.2.2.2.2.1
  unfold S_X6_tag
  rw [show gx_r u 0 3 = 5 from c0 0 3 (by decide), show gx_r u 0 0 = 1 from c0 0 0 (by decide), show gx_r u 0 1 = 2 from c0 0 1 (by decide)]
  refine ⟨isO_x 0 5 (by decide), isO_x 5 4 (by decide), i_X5_writeValue c0 h.2.1 h.2.2.2.2 h.2.2.1 (fun q => ?_) (fun w q f hf => ?_)⟩
  · try dsimp only
    rw [show gx_r u 0 0 = 1 from c0 0 0 (by decide)]
    exact ⟨h.2.1.1, t_clear h (fun v hv hs => h2 q v hv hs)⟩
  · have hl : (tvO G w).length ≤ 2000 := by
      have := fnd_le G 59 w
      have := h.2.2.2.2.2.2.2.2.1
      unfold tvO
      rw [List.length_take, List.length_drop]; omega
    have s := cS_o h hf hl
    try dsimp only
    rw [show gx_r (byW u 2 f (tvO G w).length) 0 0 = 1 from c0 0 0 (by decide)]
    exact ⟨h.2.1.1, t_clear s.1 (fun v hv hs => h1 w q v (exC_tr s.2 hv) hs)⟩
theorem dcF_len (L : List Nat) : ∀ k i w b O, (dcF L k i w b O).length ≤ O.length + k
  | 0, _, _, _, O => by simp [dcF]
  | k + 1, i, w, b, O => by
    unfold dcF
    split
    · have := dcF_len L k (i + 1) (w + 6) (b * 64 + six (ch L i)) O; omega
    · have := dcF_len L k (i + 1) (w - 2) ((b * 64 + six (ch L i)) % 2 ^ (w - 2)) (O ++ [(b * 64 + six (ch L i)) / 2 ^ (w - 2)])
      rw [len_push] at this; omega
theorem t_decode {u : gx_S} {T O M G : List Nat} {k : Nat} {x : Int32} {post : Int32 → gx_S → Prop} (h : cS u T O M k G) (h1 : ∀ n, n ≤ 900 → x = nI n → aof n T = true → ∀ v, exC u v → cS v [] (dcF T (nlet n) 0 0 0 []) M k G → post x v) (h2 : ∀ n, n ≤ 900 → x = nI n → aof n T = false → ∀ v, exC u v → cS v [] O M k G → post (-2) v) (h3 : (x < 0 ∨ nI 900 < x) → post (-1) u) : S_X6_decode u 0 x post := by
  have c0 := h.1
  unfold S_X6_decode
  refine ⟨fun q => h3 (Or.inl q), fun q => ⟨fun q2 => ?_, fun q2 => h3 (Or.inr (Int32.not_le.mp q2))⟩⟩
  obtain ⟨n, hn, rfl⟩ := nI_of2 (M := 900) (n := 900) (by decide) q q2
  rw [show gx_r u 0 0 = 1 from c0 0 0 (by decide)]
  refine ⟨isO_x 0 5 (by decide), T, n, hn, rfl, h.2.1, ⟨fun z => ?_, fun z => ?_⟩⟩
  · rw [b2_0] at z
    rw [show gx_r u 0 0 = 1 from c0 0 0 (by decide)]
    exact ⟨h.2.1.1, t_clear h (fun v hv hs => h2 n hn rfl z v hv hs)⟩
  · have z2 := b2_n0 z
    have hs : sxF T (nlet n) 0 = true := by
      unfold aof at z2
      split at z2
      · split at z2
        · assumption
        · cases z2
      · cases z2
    rw [show gx_r u 0 0 = 1 from c0 0 0 (by decide), show gx_r u 0 1 = 2 from c0 0 1 (by decide)]
    refine ⟨T, O, n, hn, rfl, h.2.1, h.2.2.1, by decide, by rw [c0 1 0 (by decide), c0 2 0 (by decide)]; decide, hs, fun f hf => ?_⟩
    have hl : (dcF T (nlet n) 0 0 0 []).length ≤ 2000 := by
      have := dcF_len T (nlet n) 0 0 0 []
      have h5 : nlet n ≤ 1300 := by unfold nlet; omega
      simp at this; omega
    have s := cS_o h hf hl
    try dsimp only
    rw [show gx_r (byW u 2 f (dcF T (nlet n) 0 0 0 []).length) 0 0 = 1 from c0 0 0 (by decide)]
    exact ⟨h.2.1.1, t_clear s.1 (fun v hv hs2 => h1 n hn rfl z2 v (exC_tr s.2 hv) hs2)⟩
theorem t_digest {u : gx_S} {T O M G : List Nat} {k : Nat} {post : Int32 → gx_S → Prop} (h : cS u T O M k G) (h1 : ∀ v, exC u v → cS v [] (dig (gx_a u 60) (gx_a u 61) T) M k G → post 32 v) : S_X6_digest u 0 post := by
  have c0 := h.1
  unfold S_X6_digest
  rw [show gx_r u 0 4 = 7 from c0 0 4 (by decide), show gx_r u 0 0 = 1 from c0 0 0 (by decide), show gx_r u 0 1 = 2 from c0 0 1 (by decide)]
  refine ⟨isO_x 0 5 (by decide), isO_x 7 3 (by decide), rfl, rfl, rfl, c0, T, O, h.2.1, h.2.2.1, fun u' hx f hf => ?_⟩
  have s0 := cS_x h hx (by decide)
  have hl : (dig (gx_a u 60) (gx_a u 61) T).length = 32 := dgB_len _ 8
  have s := cS_o s0.1 hf (by omega)
  try dsimp only
  rw [show gx_r (byW u' 2 f (dig (gx_a u 60) (gx_a u 61) T).length) 0 0 = 1 from s0.1.1 0 0 (by decide)]
  refine ⟨h.2.1.1, t_clear s.1 (fun v hv hs => ?_)⟩
  rw [show gx_r v 0 1 = 2 from hs.1 0 1 (by decide)]
  refine ⟨h.2.2.1.1, i_X0_size hs.2.2.1 ?_⟩
  rw [hl]
  exact h1 v (exC_tr s0.2 (exC_tr s.2 hv)) hs
theorem t_octet {u : gx_S} {T O M G : List Nat} {k : Nat} {x : Int32} {post : Int32 → gx_S → Prop} (h : cS u T O M k G) (h1 : x = -1 → post (nI O.length) u) (h2 : ∀ j, x = nI j → j < 2 ^ 31 → post (cI (ch O j)) u) (h3 : x < 0 → x ≠ -1 → post (-2) u) : S_X6_octet u 0 x post := by
  have c0 := h.1
  unfold S_X6_octet
  rw [show gx_r u 0 1 = 2 from c0 0 1 (by decide)]
  refine ⟨fun q => ⟨isO_x 0 5 (by decide), h.2.2.1.1, ?_⟩, fun q => ⟨isO_x 0 5 (by decide), h.2.2.1.1, i_X0_size h.2.2.1 (h1 q)⟩⟩
  by_cases hx : x < 0
  · exact i_X0_at_neg hx (h3 hx q)
  · obtain ⟨j, hj, rfl⟩ := nI_of hx
    exact i_X0_at h.2.2.1 hj (h2 j rfl hj)
end
section
/-! GREAT NUMBERS: digits of 16 bits, the lowest first; dv is an int's value, vA that of n digits -/
def dv (x : Int32) : Nat := x.toBitVec.toNat
theorem dv_nI {n : Nat} (h : n < 2 ^ 32) : dv (nI n) = n := pk_tn h
theorem nI_dv (x : Int32) : nI (dv x) = x := by
  apply Int32.toBitVec_inj.mp
  apply BitVec.eq_of_toNat_eq
  exact pk_tn (i32_lt x)
def okD (a : Nat → Int32) (n : Nat) : Prop := ∀ j, j < n → dv (a j) < 65536
def vA (a : Nat → Int32) : Nat → Nat
  | 0 => 0
  | n + 1 => vA a n + dv (a n) * 65536 ^ n
theorem vA_0 (a : Nat → Int32) : vA a 0 = 0 := rfl
theorem vA_s (a : Nat → Int32) (n : Nat) : vA a (n + 1) = vA a n + dv (a n) * 65536 ^ n := rfl
theorem vA_cg {a b : Nat → Int32} : ∀ n, (∀ j, j < n → a j = b j) → vA a n = vA b n
  | 0, _ => rfl
  | n + 1, h => by rw [vA, vA, vA_cg n (fun j hj => h j (by omega)), h n (by omega)]
theorem pow_s (n : Nat) : 65536 ^ (n + 1) = 65536 * 65536 ^ n := by rw [Nat.pow_succ, Nat.mul_comm]
theorem vA_lt {a : Nat → Int32} : ∀ n, okD a n → vA a n < 65536 ^ n
  | 0, _ => by simp [vA]
  | n + 1, h => by
    have h1 := vA_lt n (fun j hj => h j (by omega))
    have h2 := h n (by omega)
    have h3 : dv (a n) * 65536 ^ n ≤ 65535 * 65536 ^ n := Nat.mul_le_mul_right _ (by omega)
    rw [vA, pow_s]
    omega
theorem vA_ge {a : Nat → Int32} {k : Nat} {x : Int32} : ∀ n, n ≤ k → vA (upd a k x) n = vA a n := fun n hn => vA_cg n (fun j hj => pk_un (by omega))
theorem vA_upd {a : Nat → Int32} {k : Nat} {x : Int32} : ∀ n, k < n → vA (upd a k x) n + dv (a k) * 65536 ^ k = vA a n + dv x * 65536 ^ k
  | 0, h => by omega
  | n + 1, h => by
    by_cases e : k = n
    · subst e
      rw [vA, vA, vA_ge k (Nat.le_refl _), pk_us]
      omega
    · have := vA_upd (a := a) (k := k) (x := x) n (by omega)
      rw [vA, vA, pk_un (by omega)]
      omega
def sl (a : Nat → Int32) (p : Nat) : Nat → Int32 := fun j => a (p + j)
theorem sl_upd (a : Nat → Int32) (p k : Nat) (x : Int32) : sl (upd a (p + k) x) p = upd (sl a p) k x := by
  funext j
  unfold sl upd
  by_cases e : j = k
  · rw [if_pos (by omega), if_pos e]
  · rw [if_neg (by omega), if_neg e]
theorem vA_sl (a : Nat → Int32) (p : Nat) : ∀ n, vA a (p + n) = vA a p + 65536 ^ p * vA (sl a p) n
  | 0 => by simp [vA]
  | n + 1 => by
    rw [show p + (n + 1) = (p + n) + 1 by omega, vA, vA, vA_sl a p n, Nat.mul_add, show sl a p n = a (p + n) from rfl, Nat.pow_add]
    have e : 65536 ^ p * (dv (a (p + n)) * 65536 ^ n) = dv (a (p + n)) * (65536 ^ p * 65536 ^ n) := by
      rw [← Nat.mul_assoc, Nat.mul_comm (65536 ^ p) (dv (a (p + n))), Nat.mul_assoc]
    omega
theorem okD_upd {a : Nat → Int32} {n k v : Nat} (h : okD a n) (hv : v < 65536) : okD (upd a k (nI v)) n := by
  intro j hj
  by_cases e : j = k
  · rw [e, pk_us, dv_nI (by omega)]; exact hv
  · rw [pk_un e]; exact h j hj
theorem dg_inj {a b : Nat → Int32} : ∀ n, okD a n → okD b n → vA a n = vA b n → ∀ j, j < n → a j = b j
  | 0, _, _, _, j, hj => by omega
  | n + 1, ha, hb, h, j, hj => by
    have h1 := vA_lt n (fun j hj => ha j (by omega))
    have h2 := vA_lt n (fun j hj => hb j (by omega))
    rw [vA, vA] at h
    have e1 : dv (a n) = dv (b n) := by
      have d1 : (vA a n + dv (a n) * 65536 ^ n) / 65536 ^ n = dv (a n) := by
        rw [Nat.add_mul_div_right _ _ (Nat.pow_pos (by omega)), Nat.div_eq_of_lt h1, Nat.zero_add]
      have d2 : (vA b n + dv (b n) * 65536 ^ n) / 65536 ^ n = dv (b n) := by
        rw [Nat.add_mul_div_right _ _ (Nat.pow_pos (by omega)), Nat.div_eq_of_lt h2, Nat.zero_add]
      rw [← d1, h, d2]
    by_cases e : j = n
    · rw [e, ← nI_dv (a n), e1, nI_dv]
    · rw [e1] at h
      exact dg_inj n (fun j hj => ha j (by omega)) (fun j hj => hb j (by omega)) (by omega) j (by omega)
theorem sp_mul (x A : Nat) : x * A = (x % 65536) * A + (x / 65536) * (65536 * A) := by
  rw [← Nat.mul_assoc, ← Nat.add_mul]
  congr 1
  omega
-- longs
def lz (c : Int) : Int64 := Int64.ofInt c
theorem lz_n (n : Nat) : lN n = lz n := by
  unfold lN lz
  apply Int64.toBitVec_inj.mp
  rw [Int64.toBitVec_ofInt]
  show BitVec.ofNat 64 n = _
  exact (BitVec.ofInt_natCast 64 n).symm
theorem lz_add (a b : Int) : lz a + lz b = lz (a + b) := (Int64.ofInt_add a b).symm
theorem lz_sub (a b : Int) : lz a - lz b = lz (a - b) := (Int64.ofInt_sub a b).symm
theorem lz_mul (a b : Int) : lz a * lz b = lz (a * b) := (Int64.ofInt_mul a b).symm
theorem lz_toInt {c : Int} (h1 : -4611686018427387904 ≤ c) (h2 : c < 4611686018427387904) : (lz c).toInt = c := Int64.toInt_ofInt_of_le (by omega) (by omega)
theorem lz_dv {x : Int32} (h : dv x < 65536) : x.toInt64 = lz (dv x) := by
  rw [← lz_n, ← nI_l (by omega), nI_dv]
theorem lz_and (c : Int) : (lz c &&& (65535 : Int64)).toInt32 = nI (c % 65536).toNat := by
  apply Int32.toBitVec_inj.mp
  apply BitVec.eq_of_toNat_eq
  show (BitVec.signExtend 32 ((lz c).toBitVec &&& 65535#64)).toNat = _
  rw [BitVec.signExtend_eq_setWidth_of_le _ (by omega), BitVec.toNat_setWidth, BitVec.toNat_and, pk_tn (by omega)]
  show ((BitVec.ofInt 64 c).toNat &&& (2 ^ 16 - 1)) % 2 ^ 32 = _
  rw [Nat.and_two_pow_sub_one_eq_mod, BitVec.toNat_ofInt]
  omega
theorem lz_shr {c : Int} (h1 : -4611686018427387904 ≤ c) (h2 : c < 4611686018427387904) : lz c >>> ((16 : Int32).toInt64 &&& 63) = lz (c / 65536) := by
  apply Int64.toInt_inj.mp
  have e : (lz c >>> ((16 : Int32).toInt64 &&& 63)).toInt = (lz c).toInt >>> 16 := by
    have hD : (((16 : Int32).toInt64 &&& 63).toBitVec.smod 64).toNat = 16 := by decide
    show ((lz c).toBitVec.sshiftRight (((16 : Int32).toInt64 &&& 63).toBitVec.smod 64).toNat).toInt = _
    rw [hD, BitVec.toInt_sshiftRight]
    rfl
  rw [e, lz_toInt h1 h2, lz_toInt (by omega) (by omega), Int.shiftRight_eq_div_pow]
  rfl
theorem lz_i {n : Nat} : (lz n).toInt32 = nI n := by rw [← lz_n, lN_i]
-- pasted from kit/laws/BITS.to-paste: the family wb_
theorem wb_tb (n : Nat) : (lN n).toBitVec = BitVec.ofNat 64 n := rfl
theorem wb_inj {a b : Int64} (h : a.toBitVec = b.toBitVec) : a = b := Int64.toBitVec_inj.mp h
theorem wb_tn {n : Nat} (h : n < 2 ^ 64) : (lN n).toBitVec.toNat = n := by rw [wb_tb, BitVec.toNat_ofNat, Nat.mod_eq_of_lt h]
theorem wb_of (x : Int64) : ∃ n, n < 2 ^ 64 ∧ x = lN n := ⟨x.toBitVec.toNat, x.toBitVec.isLt, wb_inj (by rw [wb_tb]; simp)⟩
theorem wb_of32 (x : Int32) : ∃ n, n < 2 ^ 32 ∧ x = nI n := ⟨x.toBitVec.toNat, x.toBitVec.isLt, Int32.toBitVec_inj.mp (by show _ = BitVec.ofNat 32 _; simp)⟩
theorem wb_c : ∀ k, k < 64 → ((nI k).toInt64 &&& 63) = lN k := by decide +kernel
theorem wb_cu : ∀ k, k < 64 → ((nI k).toInt64.toUInt64 &&& Int64.toUInt64 63) = UInt64.ofNat k := by decide +kernel
theorem wb_sm : ∀ k, k < 64 → (BitVec.ofNat 64 k).smod 64 = BitVec.ofNat 64 k := by decide +kernel
theorem wb_pw {a b : Nat} (h : a ≤ b) : 2 ^ b = 2 ^ a * 2 ^ (b - a) := by rw [← Nat.pow_add]; congr 1; omega
theorem wb_lt2 {a b : Nat} (h : a < b) : 2 ^ a < 2 ^ b := Nat.pow_lt_pow_right (by decide) h
theorem wb_mod (n : Nat) : lN n = lN (n % 2 ^ 64) := wb_inj (by rw [wb_tb, wb_tb]; apply BitVec.eq_of_toNat_eq; rw [BitVec.toNat_ofNat, BitVec.toNat_ofNat, Nat.mod_mod])
theorem wb_shr {n k : Nat} (hn : n < 2 ^ 64) (hk : k < 64) : ((lN n).toUInt64 >>> ((nI k).toInt64.toUInt64 &&& Int64.toUInt64 63)).toInt64 = lN (n / 2 ^ k) := by
  rw [wb_cu k hk]
  apply wb_inj
  apply BitVec.eq_of_toNat_eq
  show ((lN n).toUInt64 >>> UInt64.ofNat k).toNat = (BitVec.ofNat 64 _).toNat
  have h1 : (UInt64.ofNat k).toNat = k := by
    show (BitVec.ofNat 64 k).toNat = k
    rw [BitVec.toNat_ofNat, Nat.mod_eq_of_lt (by omega)]
  have h2 : (lN n).toUInt64.toNat = n := wb_tn hn
  rw [UInt64.toNat_shiftRight, h1, h2, Nat.mod_eq_of_lt hk, Nat.shiftRight_eq_div_pow, BitVec.toNat_ofNat, Nat.mod_eq_of_lt (Nat.lt_of_le_of_lt (Nat.div_le_self _ _) hn)]
theorem wb_shl (n : Nat) {k : Nat} (hk : k < 64) : lN n <<< ((nI k).toInt64 &&& 63) = lN (n * 2 ^ k) := by
  rw [wb_c k hk]
  apply wb_inj
  rw [Int64.toBitVec_shiftLeft, wb_tb, wb_tb, wb_tb, wb_sm k hk]
  apply BitVec.eq_of_toNat_eq
  rw [BitVec.shiftLeft_eq', BitVec.toNat_shiftLeft, BitVec.toNat_ofNat, BitVec.toNat_ofNat, BitVec.toNat_ofNat, Nat.mod_eq_of_lt (show k < 2 ^ 64 by omega), Nat.shiftLeft_eq, Nat.mul_mod, Nat.mod_mod, ← Nat.mul_mod]
theorem wb_and {a b : Nat} (ha : a < 2 ^ 64) (hb : b < 2 ^ 64) : lN a &&& lN b = lN (a &&& b) := by
  apply wb_inj
  rw [Int64.toBitVec_and, wb_tb, wb_tb, wb_tb]
  apply BitVec.eq_of_toNat_eq
  rw [BitVec.toNat_and, BitVec.toNat_ofNat, BitVec.toNat_ofNat, BitVec.toNat_ofNat, Nat.mod_eq_of_lt ha, Nat.mod_eq_of_lt hb, Nat.mod_eq_of_lt (Nat.and_lt_two_pow _ hb)]
theorem wb_or {a b : Nat} (ha : a < 2 ^ 64) (hb : b < 2 ^ 64) : lN a ||| lN b = lN (a ||| b) := by
  apply wb_inj
  rw [Int64.toBitVec_or, wb_tb, wb_tb, wb_tb]
  apply BitVec.eq_of_toNat_eq
  rw [BitVec.toNat_or, BitVec.toNat_ofNat, BitVec.toNat_ofNat, BitVec.toNat_ofNat, Nat.mod_eq_of_lt ha, Nat.mod_eq_of_lt hb, Nat.mod_eq_of_lt (Nat.or_lt_two_pow ha hb)]
theorem wb_mask {n k : Nat} (hn : n < 2 ^ 64) (hk : k < 64) : lN n &&& lN (2 ^ k - 1) = lN (n % 2 ^ k) := by
  rw [wb_and hn (by have := wb_lt2 hk; omega), Nat.and_two_pow_sub_one_eq_mod]
theorem wb_a1 {n : Nat} (hn : n < 2 ^ 64) : lN n &&& 1 = lN (n % 2) := wb_mask (k := 1) hn (by decide)
end
section
-- PlainSeal$Modular.takeNumber(LPlainSeal$Bytes;I[I)V
theorem dX2_takeNumber_0 : decode cX2_takeNumber 0 = .ok (.iload_n 1, 1) := by decide +kernel
theorem dX2_takeNumber_1 : decode cX2_takeNumber 1 = .ok (.bipush 64, 2) := by decide +kernel
theorem dX2_takeNumber_3 : decode cX2_takeNumber 3 = .ok (.iadd, 1) := by decide +kernel
theorem dX2_takeNumber_4 : decode cX2_takeNumber 4 = .ok (.iconst 1, 1) := by decide +kernel
theorem dX2_takeNumber_5 : decode cX2_takeNumber 5 = .ok (.isub, 1) := by decide +kernel
theorem dX2_takeNumber_6 : decode cX2_takeNumber 6 = .ok (.istore_n 3, 1) := by decide +kernel
theorem dX2_takeNumber_7 : decode cX2_takeNumber 7 = .ok (.iconst 0, 1) := by decide +kernel
theorem dX2_takeNumber_8 : decode cX2_takeNumber 8 = .ok (.istore 4, 2) := by decide +kernel
theorem dX2_takeNumber_10 : decode cX2_takeNumber 10 = .ok (.iload 4, 2) := by decide +kernel
theorem dX2_takeNumber_12 : decode cX2_takeNumber 12 = .ok (.bipush 32, 2) := by decide +kernel
theorem dX2_takeNumber_14 : decode cX2_takeNumber 14 = .ok (.if_icmp .ge 39, 3) := by decide +kernel
theorem dX2_takeNumber_17 : decode cX2_takeNumber 17 = .ok (.aload_n 2, 1) := by decide +kernel
theorem dX2_takeNumber_18 : decode cX2_takeNumber 18 = .ok (.iload 4, 2) := by decide +kernel
theorem dX2_takeNumber_20 : decode cX2_takeNumber 20 = .ok (.aload_n 0, 1) := by decide +kernel
theorem dX2_takeNumber_21 : decode cX2_takeNumber 21 = .ok (.iload_n 3, 1) := by decide +kernel
theorem dX2_takeNumber_22 : decode cX2_takeNumber 22 = .ok (.iconst 2, 1) := by decide +kernel
theorem dX2_takeNumber_23 : decode cX2_takeNumber 23 = .ok (.iload 4, 2) := by decide +kernel
theorem dX2_takeNumber_25 : decode cX2_takeNumber 25 = .ok (.imul, 1) := by decide +kernel
theorem dX2_takeNumber_26 : decode cX2_takeNumber 26 = .ok (.isub, 1) := by decide +kernel
theorem dX2_takeNumber_27 : decode cX2_takeNumber 27 = .ok (.iconst 1, 1) := by decide +kernel
theorem dX2_takeNumber_28 : decode cX2_takeNumber 28 = .ok (.isub, 1) := by decide +kernel
theorem dX2_takeNumber_29 : decode cX2_takeNumber 29 = .ok (.invokevirtual 28, 3) := by decide +kernel
theorem dX2_takeNumber_32 : decode cX2_takeNumber 32 = .ok (.bipush 8, 2) := by decide +kernel
theorem dX2_takeNumber_34 : decode cX2_takeNumber 34 = .ok (.ishl, 1) := by decide +kernel
theorem dX2_takeNumber_35 : decode cX2_takeNumber 35 = .ok (.aload_n 0, 1) := by decide +kernel
theorem dX2_takeNumber_36 : decode cX2_takeNumber 36 = .ok (.iload_n 3, 1) := by decide +kernel
theorem dX2_takeNumber_37 : decode cX2_takeNumber 37 = .ok (.iconst 2, 1) := by decide +kernel
theorem dX2_takeNumber_38 : decode cX2_takeNumber 38 = .ok (.iload 4, 2) := by decide +kernel
theorem dX2_takeNumber_40 : decode cX2_takeNumber 40 = .ok (.imul, 1) := by decide +kernel
theorem dX2_takeNumber_41 : decode cX2_takeNumber 41 = .ok (.isub, 1) := by decide +kernel
theorem dX2_takeNumber_42 : decode cX2_takeNumber 42 = .ok (.invokevirtual 28, 3) := by decide +kernel
theorem dX2_takeNumber_45 : decode cX2_takeNumber 45 = .ok (.ior, 1) := by decide +kernel
theorem dX2_takeNumber_46 : decode cX2_takeNumber 46 = .ok (.iastore, 1) := by decide +kernel
theorem dX2_takeNumber_47 : decode cX2_takeNumber 47 = .ok (.iinc 4 1, 3) := by decide +kernel
theorem dX2_takeNumber_50 : decode cX2_takeNumber 50 = .ok (.goto (-40), 3) := by decide +kernel
theorem dX2_takeNumber_53 : decode cX2_takeNumber 53 = .ok (.return_, 1) := by decide +kernel
theorem hyX2_takeNumber : yX2_takeNumber.cls ≠ "java/lang/invoke/MethodHandle" ∧ yX2_takeNumber.cls ≠ "java/lang/invoke/VarHandle" ∧ (parseMethodDescriptor yX2_takeNumber.desc).map (fun d => d.parameters.length) = some 3 := by decide +kernel
abbrev J_X2_takeNumber_10 (E : gx_E) (v0 : Nat) (v1 : Int32) (v2 : Nat) (v3 : Int32) (v4 : Int32) (u : gx_S) : Prop := gx_Wc E 5 10 [(0, .ref (ex_ad E v0)), (1, .int v1), (2, .ref (ex_ad E v2)), (3, .int v3), (4, .int v4)] [] u
set_option maxHeartbeats 4000000 in
set_option maxRecDepth 100000 in
theorem w_X2_takeNumber_0 {E : gx_E} (X : gx_X E cX2_takeNumber 5 RX2 none) (hd : 1 ≤ ex_d E) {post : gx_S → Prop} (hQ : ex_Q E = va_Qv post (gx_B (ex_Z E)) (gx_A (ex_Z E))) {u : gx_S} {v0 : Nat} {v1 : Int32} {v2 : Nat} (h : (∀ x1 : Int32, x1 = ((v1 + (64 : Int32)) - (1 : Int32)) → J_X2_takeNumber_10 E v0 v1 v2 x1 (0 : Int32) u)) : gx_Wc E 5 0 [(0, .ref (ex_ad E v0)), (1, .int v1), (2, .ref (ex_ad E v2))] [] u := by
  refine gx_iload_n X (j := 1) dX2_takeNumber_0 rfl rfl ?_
  refine gx_bipush X (v := 64) dX2_takeNumber_1 (by decide) ?_
  refine gx_iadd X dX2_takeNumber_3 ?_
  refine gx_iconst X (v := 1) dX2_takeNumber_4 (by decide) ?_
  refine gx_isub X dX2_takeNumber_5 ?_
  refine gx_nami (fun x1 ex1 => ?_)
  replace h := h x1 ex1
  refine gx_istore_n X (lv' := [(3, .int x1), (0, .ref (ex_ad E v0)), (1, .int v1), (2, .ref (ex_ad E v2))]) dX2_takeNumber_6 rfl (by decide) rfl ?_
  refine gx_iconst X (v := 0) dX2_takeNumber_7 (by decide) ?_
  refine gx_istore X (lv' := [(4, .int (0 : Int32)), (3, .int x1), (0, .ref (ex_ad E v0)), (1, .int v1), (2, .ref (ex_ad E v2))]) dX2_takeNumber_8 (by decide) rfl ?_
  exact gx_sub [2, 3, 4, 1, 0] rfl h
set_option maxHeartbeats 4000000 in
set_option maxRecDepth 100000 in
theorem w_X2_takeNumber_10 {E : gx_E} (X : gx_X E cX2_takeNumber 5 RX2 none) (hd : 1 ≤ ex_d E) {post : gx_S → Prop} (hQ : ex_Q E = va_Qv post (gx_B (ex_Z E)) (gx_A (ex_Z E))) {u : gx_S} {v0 : Nat} {v1 : Int32} {v2 : Nat} {v3 : Int32} {v4 : Int32} (h : (((32 : Int32) ≤ v4 → post u) ∧ (¬ (32 : Int32) ≤ v4 → (gx_isO v0 0 ∧ S_X0_at u v0 ((v3 - ((2 : Int32) * v4)) - (1 : Int32)) (fun (r3 : Int32) (u2 : gx_S) => (S_X0_at u2 v0 (v3 - ((2 : Int32) * v4)) (fun (r5 : Int32) (u4 : gx_S) => (gx_isA v2 .int ∧ vp_in v4 (gx_len v2) ∧ ∀ u8 : gx_S, u8 = gx_pa u4 v2 (upd (gx_a u4 v2) v4.toNatClampNeg ((r3 <<< ((8 : Int32) &&& 31)) ||| r5)) → (∀ x9 : Int32, x9 = v4 + 1 → J_X2_takeNumber_10 E v0 v1 v2 v3 x9 u8))))))))) : gx_Wc E 5 10 [(0, .ref (ex_ad E v0)), (1, .int v1), (2, .ref (ex_ad E v2)), (3, .int v3), (4, .int v4)] [] u := by
  refine gx_iload X (j := 4) dX2_takeNumber_10 rfl ?_
  refine gx_bipush X (v := 32) dX2_takeNumber_12 (by decide) ?_
  refine gx_icmp_ge X (tgt := 53) dX2_takeNumber_14 (by decide) (fun c10 => ?_) (fun c10 => ?_)
  · replace h := h.1 c10
    exact gx_vret X hQ h dX2_takeNumber_53
  · replace h := h.2 c10
    refine gx_aload_n X (j := 2) dX2_takeNumber_17 rfl rfl ?_
    refine gx_iload X (j := 4) dX2_takeNumber_18 rfl ?_
    refine gx_aload_n X (j := 0) dX2_takeNumber_20 rfl rfl ?_
    refine gx_iload_n X (j := 3) dX2_takeNumber_21 rfl rfl ?_
    refine gx_iconst X (v := 2) dX2_takeNumber_22 (by decide) ?_
    refine gx_iload X (j := 4) dX2_takeNumber_23 rfl ?_
    refine gx_imul X dX2_takeNumber_25 ?_
    refine gx_isub X dX2_takeNumber_26 ?_
    refine gx_iconst X (v := 1) dX2_takeNumber_27 (by decide) ?_
    refine gx_isub X dX2_takeNumber_28 ?_
    obtain ⟨k1, h⟩ := h
    refine gx_ki (gx_rV X (c_X0_at h) (Nat.le_trans (by decide) hd) (Nat.le_trans (by decide) (Nat.mul_le_mul_left 40 hd)) k1 rfl mw_375 mw_163 mw_164 mw_2 mw_165 hyX0_at (As := [.int ((v3 - ((2 : Int32) * v4)) - (1 : Int32))]) (rest := [.int v4, .ref (ex_ad E v2)]) rfl rfl (Nat.le_of_ble_eq_true rfl) dX2_takeNumber_29) (fun r3 u2 h => ?_)
    refine gx_bipush X (v := 8) dX2_takeNumber_32 (by decide) ?_
    refine gx_ishl X dX2_takeNumber_34 ?_
    refine gx_aload_n X (j := 0) dX2_takeNumber_35 rfl rfl ?_
    refine gx_iload_n X (j := 3) dX2_takeNumber_36 rfl rfl ?_
    refine gx_iconst X (v := 2) dX2_takeNumber_37 (by decide) ?_
    refine gx_iload X (j := 4) dX2_takeNumber_38 rfl ?_
    refine gx_imul X dX2_takeNumber_40 ?_
    refine gx_isub X dX2_takeNumber_41 ?_
    refine gx_ki (gx_rV X (c_X0_at h) (Nat.le_trans (by decide) hd) (Nat.le_trans (by decide) (Nat.mul_le_mul_left 40 hd)) k1 rfl mw_375 mw_163 mw_164 mw_2 mw_165 hyX0_at (As := [.int (v3 - ((2 : Int32) * v4))]) (rest := [.int (r3 <<< ((8 : Int32) &&& 31)), .int v4, .ref (ex_ad E v2)]) rfl rfl (Nat.le_of_ble_eq_true rfl) dX2_takeNumber_42) (fun r5 u4 h => ?_)
    refine gx_ior X dX2_takeNumber_45 ?_
    obtain ⟨k6, h⟩ := h
    obtain ⟨k7, h⟩ := h
    refine gx_iast X k6 k7 dX2_takeNumber_46 ?_
    refine gx_nams (fun u8 eu8 => ?_)
    replace h := h u8 eu8
    obtain ⟨x9, ex9⟩ : ∃ y : Int32, y = v4 + 1 := ⟨_, rfl⟩
    replace h := h x9 ex9
    refine gx_iinc X (v := x9) (lv' := [(4, .int x9), (0, .ref (ex_ad E v0)), (1, .int v1), (2, .ref (ex_ad E v2)), (3, .int v3)]) dX2_takeNumber_47 (j := 4) rfl (by rw [ex9]; rfl) (by decide) rfl ?_
    refine gx_goto X (tgt := 10) dX2_takeNumber_50 (by decide) ?_
    exact gx_sub [1, 2, 3, 4, 0] rfl h
-- PlainSeal$Modular.multiplyRestBy([I)V
theorem dX2_multiplyRestBy_0 : decode cX2_multiplyRestBy 0 = .ok (.iconst 0, 1) := by decide +kernel
theorem dX2_multiplyRestBy_1 : decode cX2_multiplyRestBy 1 = .ok (.istore_n 2, 1) := by decide +kernel
theorem dX2_multiplyRestBy_2 : decode cX2_multiplyRestBy 2 = .ok (.iload_n 2, 1) := by decide +kernel
theorem dX2_multiplyRestBy_3 : decode cX2_multiplyRestBy 3 = .ok (.bipush 32, 2) := by decide +kernel
theorem dX2_multiplyRestBy_5 : decode cX2_multiplyRestBy 5 = .ok (.if_icmp .ge 16, 3) := by decide +kernel
theorem dX2_multiplyRestBy_8 : decode cX2_multiplyRestBy 8 = .ok (.aload_n 0, 1) := by decide +kernel
theorem dX2_multiplyRestBy_9 : decode cX2_multiplyRestBy 9 = .ok (.getfield 19, 3) := by decide +kernel
theorem dX2_multiplyRestBy_12 : decode cX2_multiplyRestBy 12 = .ok (.iload_n 2, 1) := by decide +kernel
theorem dX2_multiplyRestBy_13 : decode cX2_multiplyRestBy 13 = .ok (.iconst 0, 1) := by decide +kernel
theorem dX2_multiplyRestBy_14 : decode cX2_multiplyRestBy 14 = .ok (.iastore, 1) := by decide +kernel
theorem dX2_multiplyRestBy_15 : decode cX2_multiplyRestBy 15 = .ok (.iinc 2 1, 3) := by decide +kernel
theorem dX2_multiplyRestBy_18 : decode cX2_multiplyRestBy 18 = .ok (.goto (-16), 3) := by decide +kernel
theorem dX2_multiplyRestBy_21 : decode cX2_multiplyRestBy 21 = .ok (.iconst 0, 1) := by decide +kernel
theorem dX2_multiplyRestBy_22 : decode cX2_multiplyRestBy 22 = .ok (.istore_n 2, 1) := by decide +kernel
theorem dX2_multiplyRestBy_23 : decode cX2_multiplyRestBy 23 = .ok (.iload_n 2, 1) := by decide +kernel
theorem dX2_multiplyRestBy_24 : decode cX2_multiplyRestBy 24 = .ok (.bipush 32, 2) := by decide +kernel
theorem dX2_multiplyRestBy_26 : decode cX2_multiplyRestBy 26 = .ok (.if_icmp .ge 85, 3) := by decide +kernel
theorem dX2_multiplyRestBy_29 : decode cX2_multiplyRestBy 29 = .ok (.lconst 0, 1) := by decide +kernel
theorem dX2_multiplyRestBy_30 : decode cX2_multiplyRestBy 30 = .ok (.lstore_n 3, 1) := by decide +kernel
theorem dX2_multiplyRestBy_31 : decode cX2_multiplyRestBy 31 = .ok (.iconst 0, 1) := by decide +kernel
theorem dX2_multiplyRestBy_32 : decode cX2_multiplyRestBy 32 = .ok (.istore 5, 2) := by decide +kernel
theorem dX2_multiplyRestBy_34 : decode cX2_multiplyRestBy 34 = .ok (.iload 5, 2) := by decide +kernel
theorem dX2_multiplyRestBy_36 : decode cX2_multiplyRestBy 36 = .ok (.bipush 32, 2) := by decide +kernel
theorem dX2_multiplyRestBy_38 : decode cX2_multiplyRestBy 38 = .ok (.if_icmp .ge 56, 3) := by decide +kernel
theorem dX2_multiplyRestBy_41 : decode cX2_multiplyRestBy 41 = .ok (.lload_n 3, 1) := by decide +kernel
theorem dX2_multiplyRestBy_42 : decode cX2_multiplyRestBy 42 = .ok (.aload_n 0, 1) := by decide +kernel
theorem dX2_multiplyRestBy_43 : decode cX2_multiplyRestBy 43 = .ok (.getfield 19, 3) := by decide +kernel
theorem dX2_multiplyRestBy_46 : decode cX2_multiplyRestBy 46 = .ok (.iload_n 2, 1) := by decide +kernel
theorem dX2_multiplyRestBy_47 : decode cX2_multiplyRestBy 47 = .ok (.iload 5, 2) := by decide +kernel
theorem dX2_multiplyRestBy_49 : decode cX2_multiplyRestBy 49 = .ok (.iadd, 1) := by decide +kernel
theorem dX2_multiplyRestBy_50 : decode cX2_multiplyRestBy 50 = .ok (.iaload, 1) := by decide +kernel
theorem dX2_multiplyRestBy_51 : decode cX2_multiplyRestBy 51 = .ok (.i2l, 1) := by decide +kernel
theorem dX2_multiplyRestBy_52 : decode cX2_multiplyRestBy 52 = .ok (.aload_n 0, 1) := by decide +kernel
theorem dX2_multiplyRestBy_53 : decode cX2_multiplyRestBy 53 = .ok (.getfield 16, 3) := by decide +kernel
theorem dX2_multiplyRestBy_56 : decode cX2_multiplyRestBy 56 = .ok (.iload_n 2, 1) := by decide +kernel
theorem dX2_multiplyRestBy_57 : decode cX2_multiplyRestBy 57 = .ok (.iaload, 1) := by decide +kernel
theorem dX2_multiplyRestBy_58 : decode cX2_multiplyRestBy 58 = .ok (.i2l, 1) := by decide +kernel
theorem dX2_multiplyRestBy_59 : decode cX2_multiplyRestBy 59 = .ok (.aload_n 1, 1) := by decide +kernel
theorem dX2_multiplyRestBy_60 : decode cX2_multiplyRestBy 60 = .ok (.iload 5, 2) := by decide +kernel
theorem dX2_multiplyRestBy_62 : decode cX2_multiplyRestBy 62 = .ok (.iaload, 1) := by decide +kernel
theorem dX2_multiplyRestBy_63 : decode cX2_multiplyRestBy 63 = .ok (.i2l, 1) := by decide +kernel
theorem dX2_multiplyRestBy_64 : decode cX2_multiplyRestBy 64 = .ok (.lmul, 1) := by decide +kernel
theorem dX2_multiplyRestBy_65 : decode cX2_multiplyRestBy 65 = .ok (.ladd, 1) := by decide +kernel
theorem dX2_multiplyRestBy_66 : decode cX2_multiplyRestBy 66 = .ok (.ladd, 1) := by decide +kernel
theorem dX2_multiplyRestBy_67 : decode cX2_multiplyRestBy 67 = .ok (.lstore_n 3, 1) := by decide +kernel
theorem dX2_multiplyRestBy_68 : decode cX2_multiplyRestBy 68 = .ok (.aload_n 0, 1) := by decide +kernel
theorem dX2_multiplyRestBy_69 : decode cX2_multiplyRestBy 69 = .ok (.getfield 19, 3) := by decide +kernel
theorem dX2_multiplyRestBy_72 : decode cX2_multiplyRestBy 72 = .ok (.iload_n 2, 1) := by decide +kernel
theorem dX2_multiplyRestBy_73 : decode cX2_multiplyRestBy 73 = .ok (.iload 5, 2) := by decide +kernel
theorem dX2_multiplyRestBy_75 : decode cX2_multiplyRestBy 75 = .ok (.iadd, 1) := by decide +kernel
theorem dX2_multiplyRestBy_76 : decode cX2_multiplyRestBy 76 = .ok (.lload_n 3, 1) := by decide +kernel
theorem dX2_multiplyRestBy_77 : decode cX2_multiplyRestBy 77 = .ok (.ldc2_w 53, 3) := by decide +kernel
theorem dX2_multiplyRestBy_80 : decode cX2_multiplyRestBy 80 = .ok (.land, 1) := by decide +kernel
theorem dX2_multiplyRestBy_81 : decode cX2_multiplyRestBy 81 = .ok (.l2i, 1) := by decide +kernel
theorem dX2_multiplyRestBy_82 : decode cX2_multiplyRestBy 82 = .ok (.iastore, 1) := by decide +kernel
theorem dX2_multiplyRestBy_83 : decode cX2_multiplyRestBy 83 = .ok (.lload_n 3, 1) := by decide +kernel
theorem dX2_multiplyRestBy_84 : decode cX2_multiplyRestBy 84 = .ok (.bipush 16, 2) := by decide +kernel
theorem dX2_multiplyRestBy_86 : decode cX2_multiplyRestBy 86 = .ok (.lshr, 1) := by decide +kernel
theorem dX2_multiplyRestBy_87 : decode cX2_multiplyRestBy 87 = .ok (.lstore_n 3, 1) := by decide +kernel
theorem dX2_multiplyRestBy_88 : decode cX2_multiplyRestBy 88 = .ok (.iinc 5 1, 3) := by decide +kernel
theorem dX2_multiplyRestBy_91 : decode cX2_multiplyRestBy 91 = .ok (.goto (-57), 3) := by decide +kernel
theorem dX2_multiplyRestBy_94 : decode cX2_multiplyRestBy 94 = .ok (.aload_n 0, 1) := by decide +kernel
theorem dX2_multiplyRestBy_95 : decode cX2_multiplyRestBy 95 = .ok (.getfield 19, 3) := by decide +kernel
theorem dX2_multiplyRestBy_98 : decode cX2_multiplyRestBy 98 = .ok (.iload_n 2, 1) := by decide +kernel
theorem dX2_multiplyRestBy_99 : decode cX2_multiplyRestBy 99 = .ok (.bipush 32, 2) := by decide +kernel
theorem dX2_multiplyRestBy_101 : decode cX2_multiplyRestBy 101 = .ok (.iadd, 1) := by decide +kernel
theorem dX2_multiplyRestBy_102 : decode cX2_multiplyRestBy 102 = .ok (.lload_n 3, 1) := by decide +kernel
theorem dX2_multiplyRestBy_103 : decode cX2_multiplyRestBy 103 = .ok (.l2i, 1) := by decide +kernel
theorem dX2_multiplyRestBy_104 : decode cX2_multiplyRestBy 104 = .ok (.iastore, 1) := by decide +kernel
theorem dX2_multiplyRestBy_105 : decode cX2_multiplyRestBy 105 = .ok (.iinc 2 1, 3) := by decide +kernel
theorem dX2_multiplyRestBy_108 : decode cX2_multiplyRestBy 108 = .ok (.goto (-85), 3) := by decide +kernel
theorem dX2_multiplyRestBy_111 : decode cX2_multiplyRestBy 111 = .ok (.return_, 1) := by decide +kernel
theorem hyX2_multiplyRestBy : yX2_multiplyRestBy.cls ≠ "java/lang/invoke/MethodHandle" ∧ yX2_multiplyRestBy.cls ≠ "java/lang/invoke/VarHandle" ∧ (parseMethodDescriptor yX2_multiplyRestBy.desc).map (fun d => d.parameters.length) = some 1 := by decide +kernel
abbrev J_X2_multiplyRestBy_2 (E : gx_E) (v0 : Nat) (v1 : Nat) (v2 : Int32) (u : gx_S) : Prop := gx_Wc E 6 2 [(0, .ref (ex_ad E v0)), (1, .ref (ex_ad E v1)), (2, .int v2)] [] u
abbrev J_X2_multiplyRestBy_23 (E : gx_E) (v0 : Nat) (v1 : Nat) (v2 : Int32) (u : gx_S) : Prop := gx_Wc E 6 23 [(0, .ref (ex_ad E v0)), (1, .ref (ex_ad E v1)), (2, .int v2)] [] u
abbrev J_X2_multiplyRestBy_34 (E : gx_E) (v0 : Nat) (v1 : Nat) (v2 : Int32) (v3 : Int64) (v5 : Int32) (u : gx_S) : Prop := gx_Wc E 6 34 [(0, .ref (ex_ad E v0)), (1, .ref (ex_ad E v1)), (2, .int v2), (3, .long v3), (5, .int v5)] [] u
set_option maxHeartbeats 4000000 in
set_option maxRecDepth 100000 in
theorem w_X2_multiplyRestBy_0 {E : gx_E} (X : gx_X E cX2_multiplyRestBy 6 RX2 none) (hd : 0 ≤ ex_d E) {post : gx_S → Prop} (hQ : ex_Q E = va_Qv post (gx_B (ex_Z E)) (gx_A (ex_Z E))) {u : gx_S} {v0 : Nat} {v1 : Nat} (h : J_X2_multiplyRestBy_2 E v0 v1 (0 : Int32) u) : gx_Wc E 6 0 [(0, .ref (ex_ad E v0)), (1, .ref (ex_ad E v1))] [] u := by
  refine gx_iconst X (v := 0) dX2_multiplyRestBy_0 (by decide) ?_
  refine gx_istore_n X (lv' := [(2, .int (0 : Int32)), (0, .ref (ex_ad E v0)), (1, .ref (ex_ad E v1))]) dX2_multiplyRestBy_1 rfl (by decide) rfl ?_
  exact gx_sub [1, 2, 0] rfl h
set_option maxHeartbeats 4000000 in
set_option maxRecDepth 100000 in
theorem w_X2_multiplyRestBy_2 {E : gx_E} (X : gx_X E cX2_multiplyRestBy 6 RX2 none) (hd : 0 ≤ ex_d E) {post : gx_S → Prop} (hQ : ex_Q E = va_Qv post (gx_B (ex_Z E)) (gx_A (ex_Z E))) {u : gx_S} {v0 : Nat} {v1 : Nat} {v2 : Int32} (h : (((32 : Int32) ≤ v2 → J_X2_multiplyRestBy_23 E v0 v1 (0 : Int32) u) ∧ (¬ (32 : Int32) ≤ v2 → (gx_isO v0 2 ∧ (gx_isA (gx_r u v0 3) .int ∧ vp_in v2 (gx_len (gx_r u v0 3)) ∧ ∀ u4 : gx_S, u4 = gx_pa u (gx_r u v0 3) (upd (gx_a u (gx_r u v0 3)) v2.toNatClampNeg (0 : Int32)) → (∀ x5 : Int32, x5 = v2 + 1 → J_X2_multiplyRestBy_2 E v0 v1 x5 u4)))))) : gx_Wc E 6 2 [(0, .ref (ex_ad E v0)), (1, .ref (ex_ad E v1)), (2, .int v2)] [] u := by
  refine gx_iload_n X (j := 2) dX2_multiplyRestBy_2 rfl rfl ?_
  refine gx_bipush X (v := 32) dX2_multiplyRestBy_3 (by decide) ?_
  refine gx_icmp_ge X (tgt := 21) dX2_multiplyRestBy_5 (by decide) (fun c6 => ?_) (fun c6 => ?_)
  · replace h := h.1 c6
    refine gx_iconst X (v := 0) dX2_multiplyRestBy_21 (by decide) ?_
    refine gx_istore_n X (lv' := [(2, .int (0 : Int32)), (0, .ref (ex_ad E v0)), (1, .ref (ex_ad E v1))]) dX2_multiplyRestBy_22 rfl (by decide) rfl ?_
    exact gx_sub [1, 2, 0] rfl h
  · replace h := h.2 c6
    refine gx_aload_n X (j := 0) dX2_multiplyRestBy_8 rfl rfl ?_
    obtain ⟨k1, h⟩ := h
    refine gx_get X k1 rfl iwX2 3 (by decide) mw_94 (v := .ref (ex_ad E (gx_r u v0 3))) rfl dX2_multiplyRestBy_9 ?_
    refine gx_iload_n X (j := 2) dX2_multiplyRestBy_12 rfl rfl ?_
    refine gx_iconst X (v := 0) dX2_multiplyRestBy_13 (by decide) ?_
    obtain ⟨k2, h⟩ := h
    obtain ⟨k3, h⟩ := h
    refine gx_iast X k2 k3 dX2_multiplyRestBy_14 ?_
    refine gx_nams (fun u4 eu4 => ?_)
    replace h := h u4 eu4
    obtain ⟨x5, ex5⟩ : ∃ y : Int32, y = v2 + 1 := ⟨_, rfl⟩
    replace h := h x5 ex5
    refine gx_iinc X (v := x5) (lv' := [(2, .int x5), (0, .ref (ex_ad E v0)), (1, .ref (ex_ad E v1))]) dX2_multiplyRestBy_15 (j := 2) rfl (by rw [ex5]; rfl) (by decide) rfl ?_
    refine gx_goto X (tgt := 2) dX2_multiplyRestBy_18 (by decide) ?_
    exact gx_sub [1, 2, 0] rfl h
set_option maxHeartbeats 4000000 in
set_option maxRecDepth 100000 in
theorem w_X2_multiplyRestBy_23 {E : gx_E} (X : gx_X E cX2_multiplyRestBy 6 RX2 none) (hd : 0 ≤ ex_d E) {post : gx_S → Prop} (hQ : ex_Q E = va_Qv post (gx_B (ex_Z E)) (gx_A (ex_Z E))) {u : gx_S} {v0 : Nat} {v1 : Nat} {v2 : Int32} (h : (((32 : Int32) ≤ v2 → post u) ∧ (¬ (32 : Int32) ≤ v2 → J_X2_multiplyRestBy_34 E v0 v1 v2 (0 : Int64) (0 : Int32) u))) : gx_Wc E 6 23 [(0, .ref (ex_ad E v0)), (1, .ref (ex_ad E v1)), (2, .int v2)] [] u := by
  refine gx_iload_n X (j := 2) dX2_multiplyRestBy_23 rfl rfl ?_
  refine gx_bipush X (v := 32) dX2_multiplyRestBy_24 (by decide) ?_
  refine gx_icmp_ge X (tgt := 111) dX2_multiplyRestBy_26 (by decide) (fun c1 => ?_) (fun c1 => ?_)
  · replace h := h.1 c1
    exact gx_vret X hQ h dX2_multiplyRestBy_111
  · replace h := h.2 c1
    refine gx_lconst X (v := 0) dX2_multiplyRestBy_29 (by decide) ?_
    refine gx_lstore_n X (lv' := [(3, .long (0 : Int64)), (0, .ref (ex_ad E v0)), (1, .ref (ex_ad E v1)), (2, .int v2)]) dX2_multiplyRestBy_30 rfl (by decide) rfl ?_
    refine gx_iconst X (v := 0) dX2_multiplyRestBy_31 (by decide) ?_
    refine gx_istore X (lv' := [(5, .int (0 : Int32)), (3, .long (0 : Int64)), (0, .ref (ex_ad E v0)), (1, .ref (ex_ad E v1)), (2, .int v2)]) dX2_multiplyRestBy_32 (by decide) rfl ?_
    exact gx_sub [2, 3, 4, 1, 0] rfl h
set_option maxHeartbeats 4000000 in
set_option maxRecDepth 100000 in
theorem w_X2_multiplyRestBy_34 {E : gx_E} (X : gx_X E cX2_multiplyRestBy 6 RX2 none) (hd : 0 ≤ ex_d E) {post : gx_S → Prop} (hQ : ex_Q E = va_Qv post (gx_B (ex_Z E)) (gx_A (ex_Z E))) {u : gx_S} {v0 : Nat} {v1 : Nat} {v2 : Int32} {v3 : Int64} {v5 : Int32} (h : (((32 : Int32) ≤ v5 → (gx_isO v0 2 ∧ (gx_isA (gx_r u v0 3) .int ∧ vp_in (v2 + (32 : Int32)) (gx_len (gx_r u v0 3)) ∧ ∀ u4 : gx_S, u4 = gx_pa u (gx_r u v0 3) (upd (gx_a u (gx_r u v0 3)) (v2 + (32 : Int32)).toNatClampNeg (v3).toInt32) → (∀ x5 : Int32, x5 = v2 + 1 → J_X2_multiplyRestBy_23 E v0 v1 x5 u4)))) ∧ (¬ (32 : Int32) ≤ v5 → (gx_isO v0 2 ∧ (gx_isR (gx_r u v0 3) .int ∧ vp_in (v2 + v5) (gx_len (gx_r u v0 3)) ∧ (gx_isR (gx_r u v0 2) .int ∧ vp_in v2 (gx_len (gx_r u v0 2)) ∧ (gx_isR v1 .int ∧ vp_in v5 (gx_len v1) ∧ (∀ x13 : Int64, x13 = (v3 + (((gx_a u (gx_r u v0 3) (v2 + v5).toNatClampNeg)).toInt64 + (((gx_a u (gx_r u v0 2) v2.toNatClampNeg)).toInt64 * ((gx_a u v1 v5.toNatClampNeg)).toInt64))) → (gx_isA (gx_r u v0 3) .int ∧ vp_in (v2 + v5) (gx_len (gx_r u v0 3)) ∧ ∀ u16 : gx_S, u16 = gx_pa u (gx_r u v0 3) (upd (gx_a u (gx_r u v0 3)) (v2 + v5).toNatClampNeg ((x13 &&& (65535 : Int64))).toInt32) → (∀ x17 : Int64, x17 = (x13 >>> ((16 : Int32).toInt64 &&& 63)) → (∀ x18 : Int32, x18 = v5 + 1 → J_X2_multiplyRestBy_34 E v0 v1 v2 x17 x18 u16))))))))))) : gx_Wc E 6 34 [(0, .ref (ex_ad E v0)), (1, .ref (ex_ad E v1)), (2, .int v2), (3, .long v3), (5, .int v5)] [] u := by
  refine gx_iload X (j := 4) dX2_multiplyRestBy_34 rfl ?_
  refine gx_bipush X (v := 32) dX2_multiplyRestBy_36 (by decide) ?_
  refine gx_icmp_ge X (tgt := 94) dX2_multiplyRestBy_38 (by decide) (fun c19 => ?_) (fun c19 => ?_)
  · replace h := h.1 c19
    refine gx_aload_n X (j := 0) dX2_multiplyRestBy_94 rfl rfl ?_
    obtain ⟨k1, h⟩ := h
    refine gx_get X k1 rfl iwX2 3 (by decide) mw_94 (v := .ref (ex_ad E (gx_r u v0 3))) rfl dX2_multiplyRestBy_95 ?_
    refine gx_iload_n X (j := 2) dX2_multiplyRestBy_98 rfl rfl ?_
    refine gx_bipush X (v := 32) dX2_multiplyRestBy_99 (by decide) ?_
    refine gx_iadd X dX2_multiplyRestBy_101 ?_
    refine gx_lload_n X (j := 3) dX2_multiplyRestBy_102 rfl rfl ?_
    refine gx_l2i X (v := (v3).toInt32) dX2_multiplyRestBy_103 rfl ?_
    obtain ⟨k2, h⟩ := h
    obtain ⟨k3, h⟩ := h
    refine gx_iast X k2 k3 dX2_multiplyRestBy_104 ?_
    refine gx_nams (fun u4 eu4 => ?_)
    replace h := h u4 eu4
    obtain ⟨x5, ex5⟩ : ∃ y : Int32, y = v2 + 1 := ⟨_, rfl⟩
    replace h := h x5 ex5
    refine gx_iinc X (v := x5) (lv' := [(2, .int x5), (0, .ref (ex_ad E v0)), (1, .ref (ex_ad E v1)), (3, .long v3), (5, .int v5)]) dX2_multiplyRestBy_105 (j := 2) rfl (by rw [ex5]; rfl) (by decide) rfl ?_
    refine gx_goto X (tgt := 23) dX2_multiplyRestBy_108 (by decide) ?_
    exact gx_sub [1, 2, 0] rfl h
  · replace h := h.2 c19
    refine gx_lload_n X (j := 3) dX2_multiplyRestBy_41 rfl rfl ?_
    refine gx_aload_n X (j := 0) dX2_multiplyRestBy_42 rfl rfl ?_
    obtain ⟨k6, h⟩ := h
    refine gx_get X k6 rfl iwX2 3 (by decide) mw_94 (v := .ref (ex_ad E (gx_r u v0 3))) rfl dX2_multiplyRestBy_43 ?_
    refine gx_iload_n X (j := 2) dX2_multiplyRestBy_46 rfl rfl ?_
    refine gx_iload X (j := 4) dX2_multiplyRestBy_47 rfl ?_
    refine gx_iadd X dX2_multiplyRestBy_49 ?_
    obtain ⟨k7, h⟩ := h
    obtain ⟨k8, h⟩ := h
    refine gx_iald X k7 k8 dX2_multiplyRestBy_50 ?_
    refine gx_i2l X (v := ((gx_a u (gx_r u v0 3) (v2 + v5).toNatClampNeg)).toInt64) dX2_multiplyRestBy_51 rfl ?_
    refine gx_aload_n X (j := 0) dX2_multiplyRestBy_52 rfl rfl ?_
    refine gx_get X k6 rfl iwX2 2 (by decide) mw_93 (v := .ref (ex_ad E (gx_r u v0 2))) rfl dX2_multiplyRestBy_53 ?_
    refine gx_iload_n X (j := 2) dX2_multiplyRestBy_56 rfl rfl ?_
    obtain ⟨k9, h⟩ := h
    obtain ⟨k10, h⟩ := h
    refine gx_iald X k9 k10 dX2_multiplyRestBy_57 ?_
    refine gx_i2l X (v := ((gx_a u (gx_r u v0 2) v2.toNatClampNeg)).toInt64) dX2_multiplyRestBy_58 rfl ?_
    refine gx_aload_n X (j := 1) dX2_multiplyRestBy_59 rfl rfl ?_
    refine gx_iload X (j := 4) dX2_multiplyRestBy_60 rfl ?_
    obtain ⟨k11, h⟩ := h
    obtain ⟨k12, h⟩ := h
    refine gx_iald X k11 k12 dX2_multiplyRestBy_62 ?_
    refine gx_i2l X (v := ((gx_a u v1 v5.toNatClampNeg)).toInt64) dX2_multiplyRestBy_63 rfl ?_
    refine gx_lmul X dX2_multiplyRestBy_64 ?_
    refine gx_ladd X dX2_multiplyRestBy_65 ?_
    refine gx_ladd X dX2_multiplyRestBy_66 ?_
    refine gx_naml (fun x13 ex13 => ?_)
    replace h := h x13 ex13
    refine gx_lstore_n X (lv' := [(3, .long x13), (0, .ref (ex_ad E v0)), (1, .ref (ex_ad E v1)), (2, .int v2), (5, .int v5)]) dX2_multiplyRestBy_67 rfl (by decide) rfl ?_
    refine gx_aload_n X (j := 1) dX2_multiplyRestBy_68 rfl rfl ?_
    refine gx_get X k6 rfl iwX2 3 (by decide) mw_94 (v := .ref (ex_ad E (gx_r u v0 3))) rfl dX2_multiplyRestBy_69 ?_
    refine gx_iload_n X (j := 3) dX2_multiplyRestBy_72 rfl rfl ?_
    refine gx_iload X (j := 4) dX2_multiplyRestBy_73 rfl ?_
    refine gx_iadd X dX2_multiplyRestBy_75 ?_
    refine gx_lload_n X (j := 0) dX2_multiplyRestBy_76 rfl rfl ?_
    refine gx_ldc2 X (v := 65535) mw_400 dX2_multiplyRestBy_77 ?_
    refine gx_land X dX2_multiplyRestBy_80 ?_
    refine gx_l2i X (v := ((x13 &&& (65535 : Int64))).toInt32) dX2_multiplyRestBy_81 rfl ?_
    obtain ⟨k14, h⟩ := h
    obtain ⟨k15, h⟩ := h
    refine gx_iast X k14 k15 dX2_multiplyRestBy_82 ?_
    refine gx_nams (fun u16 eu16 => ?_)
    replace h := h u16 eu16
    refine gx_lload_n X (j := 0) dX2_multiplyRestBy_83 rfl rfl ?_
    refine gx_bipush X (v := 16) dX2_multiplyRestBy_84 (by decide) ?_
    refine gx_lshr X (v := (x13 >>> ((16 : Int32).toInt64 &&& 63))) dX2_multiplyRestBy_86 rfl ?_
    refine gx_naml (fun x17 ex17 => ?_)
    replace h := h x17 ex17
    refine gx_lstore_n X (lv' := [(3, .long x17), (0, .ref (ex_ad E v0)), (1, .ref (ex_ad E v1)), (2, .int v2), (5, .int v5)]) dX2_multiplyRestBy_87 rfl (by decide) rfl ?_
    obtain ⟨x18, ex18⟩ : ∃ y : Int32, y = v5 + 1 := ⟨_, rfl⟩
    replace h := h x18 ex18
    refine gx_iinc X (v := x18) (lv' := [(5, .int x18), (3, .long x17), (0, .ref (ex_ad E v0)), (1, .ref (ex_ad E v1)), (2, .int v2)]) dX2_multiplyRestBy_88 (j := 4) rfl (by rw [ex18]; rfl) (by decide) rfl ?_
    refine gx_goto X (tgt := 34) dX2_multiplyRestBy_91 (by decide) ?_
    exact gx_sub [2, 3, 4, 1, 0] rfl h
-- PlainSeal$Modular.giveBack(I)J
theorem dX2_giveBack_0 : decode cX2_giveBack 0 = .ok (.lconst 0, 1) := by decide +kernel
theorem dX2_giveBack_1 : decode cX2_giveBack 1 = .ok (.lstore_n 2, 1) := by decide +kernel
theorem dX2_giveBack_2 : decode cX2_giveBack 2 = .ok (.iconst 0, 1) := by decide +kernel
theorem dX2_giveBack_3 : decode cX2_giveBack 3 = .ok (.istore 4, 2) := by decide +kernel
theorem dX2_giveBack_5 : decode cX2_giveBack 5 = .ok (.iload 4, 2) := by decide +kernel
theorem dX2_giveBack_7 : decode cX2_giveBack 7 = .ok (.bipush 32, 2) := by decide +kernel
theorem dX2_giveBack_9 : decode cX2_giveBack 9 = .ok (.if_icmp .ge 50, 3) := by decide +kernel
theorem dX2_giveBack_12 : decode cX2_giveBack 12 = .ok (.lload_n 2, 1) := by decide +kernel
theorem dX2_giveBack_13 : decode cX2_giveBack 13 = .ok (.aload_n 0, 1) := by decide +kernel
theorem dX2_giveBack_14 : decode cX2_giveBack 14 = .ok (.getfield 19, 3) := by decide +kernel
theorem dX2_giveBack_17 : decode cX2_giveBack 17 = .ok (.iload_n 1, 1) := by decide +kernel
theorem dX2_giveBack_18 : decode cX2_giveBack 18 = .ok (.iload 4, 2) := by decide +kernel
theorem dX2_giveBack_20 : decode cX2_giveBack 20 = .ok (.iadd, 1) := by decide +kernel
theorem dX2_giveBack_21 : decode cX2_giveBack 21 = .ok (.iaload, 1) := by decide +kernel
theorem dX2_giveBack_22 : decode cX2_giveBack 22 = .ok (.aload_n 0, 1) := by decide +kernel
theorem dX2_giveBack_23 : decode cX2_giveBack 23 = .ok (.getfield 13, 3) := by decide +kernel
theorem dX2_giveBack_26 : decode cX2_giveBack 26 = .ok (.iload 4, 2) := by decide +kernel
theorem dX2_giveBack_28 : decode cX2_giveBack 28 = .ok (.iaload, 1) := by decide +kernel
theorem dX2_giveBack_29 : decode cX2_giveBack 29 = .ok (.iadd, 1) := by decide +kernel
theorem dX2_giveBack_30 : decode cX2_giveBack 30 = .ok (.i2l, 1) := by decide +kernel
theorem dX2_giveBack_31 : decode cX2_giveBack 31 = .ok (.ladd, 1) := by decide +kernel
theorem dX2_giveBack_32 : decode cX2_giveBack 32 = .ok (.lstore_n 2, 1) := by decide +kernel
theorem dX2_giveBack_33 : decode cX2_giveBack 33 = .ok (.aload_n 0, 1) := by decide +kernel
theorem dX2_giveBack_34 : decode cX2_giveBack 34 = .ok (.getfield 19, 3) := by decide +kernel
theorem dX2_giveBack_37 : decode cX2_giveBack 37 = .ok (.iload_n 1, 1) := by decide +kernel
theorem dX2_giveBack_38 : decode cX2_giveBack 38 = .ok (.iload 4, 2) := by decide +kernel
theorem dX2_giveBack_40 : decode cX2_giveBack 40 = .ok (.iadd, 1) := by decide +kernel
theorem dX2_giveBack_41 : decode cX2_giveBack 41 = .ok (.lload_n 2, 1) := by decide +kernel
theorem dX2_giveBack_42 : decode cX2_giveBack 42 = .ok (.ldc2_w 53, 3) := by decide +kernel
theorem dX2_giveBack_45 : decode cX2_giveBack 45 = .ok (.land, 1) := by decide +kernel
theorem dX2_giveBack_46 : decode cX2_giveBack 46 = .ok (.l2i, 1) := by decide +kernel
theorem dX2_giveBack_47 : decode cX2_giveBack 47 = .ok (.iastore, 1) := by decide +kernel
theorem dX2_giveBack_48 : decode cX2_giveBack 48 = .ok (.lload_n 2, 1) := by decide +kernel
theorem dX2_giveBack_49 : decode cX2_giveBack 49 = .ok (.bipush 16, 2) := by decide +kernel
theorem dX2_giveBack_51 : decode cX2_giveBack 51 = .ok (.lshr, 1) := by decide +kernel
theorem dX2_giveBack_52 : decode cX2_giveBack 52 = .ok (.lstore_n 2, 1) := by decide +kernel
theorem dX2_giveBack_53 : decode cX2_giveBack 53 = .ok (.iinc 4 1, 3) := by decide +kernel
theorem dX2_giveBack_56 : decode cX2_giveBack 56 = .ok (.goto (-51), 3) := by decide +kernel
theorem dX2_giveBack_59 : decode cX2_giveBack 59 = .ok (.lload_n 2, 1) := by decide +kernel
theorem dX2_giveBack_60 : decode cX2_giveBack 60 = .ok (.lreturn, 1) := by decide +kernel
theorem hyX2_giveBack : yX2_giveBack.cls ≠ "java/lang/invoke/MethodHandle" ∧ yX2_giveBack.cls ≠ "java/lang/invoke/VarHandle" ∧ (parseMethodDescriptor yX2_giveBack.desc).map (fun d => d.parameters.length) = some 1 := by decide +kernel
abbrev J_X2_giveBack_5 (E : gx_E) (v0 : Nat) (v1 : Int32) (v2 : Int64) (v4 : Int32) (u : gx_S) : Prop := gx_Wc E 5 5 [(0, .ref (ex_ad E v0)), (1, .int v1), (2, .long v2), (4, .int v4)] [] u
set_option maxHeartbeats 4000000 in
set_option maxRecDepth 100000 in
theorem w_X2_giveBack_0 {E : gx_E} (X : gx_X E cX2_giveBack 5 RX2 (some .long)) (hd : 0 ≤ ex_d E) {post : Int64 → gx_S → Prop} (hQ : ex_Q E = va_Ql post (gx_B (ex_Z E)) (gx_A (ex_Z E))) {u : gx_S} {v0 : Nat} {v1 : Int32} (h : J_X2_giveBack_5 E v0 v1 (0 : Int64) (0 : Int32) u) : gx_Wc E 5 0 [(0, .ref (ex_ad E v0)), (1, .int v1)] [] u := by
  refine gx_lconst X (v := 0) dX2_giveBack_0 (by decide) ?_
  refine gx_lstore_n X (lv' := [(2, .long (0 : Int64)), (0, .ref (ex_ad E v0)), (1, .int v1)]) dX2_giveBack_1 rfl (by decide) rfl ?_
  refine gx_iconst X (v := 0) dX2_giveBack_2 (by decide) ?_
  refine gx_istore X (lv' := [(4, .int (0 : Int32)), (2, .long (0 : Int64)), (0, .ref (ex_ad E v0)), (1, .int v1)]) dX2_giveBack_3 (by decide) rfl ?_
  exact gx_sub [2, 3, 1, 0] rfl h
set_option maxHeartbeats 4000000 in
set_option maxRecDepth 100000 in
theorem w_X2_giveBack_5 {E : gx_E} (X : gx_X E cX2_giveBack 5 RX2 (some .long)) (hd : 0 ≤ ex_d E) {post : Int64 → gx_S → Prop} (hQ : ex_Q E = va_Ql post (gx_B (ex_Z E)) (gx_A (ex_Z E))) {u : gx_S} {v0 : Nat} {v1 : Int32} {v2 : Int64} {v4 : Int32} (h : (((32 : Int32) ≤ v4 → post v2 u) ∧ (¬ (32 : Int32) ≤ v4 → (gx_isO v0 2 ∧ (gx_isR (gx_r u v0 3) .int ∧ vp_in (v1 + v4) (gx_len (gx_r u v0 3)) ∧ (gx_isR (gx_r u v0 1) .int ∧ vp_in v4 (gx_len (gx_r u v0 1)) ∧ (∀ x6 : Int64, x6 = (v2 + (((gx_a u (gx_r u v0 3) (v1 + v4).toNatClampNeg) + (gx_a u (gx_r u v0 1) v4.toNatClampNeg))).toInt64) → (gx_isA (gx_r u v0 3) .int ∧ vp_in (v1 + v4) (gx_len (gx_r u v0 3)) ∧ ∀ u9 : gx_S, u9 = gx_pa u (gx_r u v0 3) (upd (gx_a u (gx_r u v0 3)) (v1 + v4).toNatClampNeg ((x6 &&& (65535 : Int64))).toInt32) → (∀ x10 : Int64, x10 = (x6 >>> ((16 : Int32).toInt64 &&& 63)) → (∀ x11 : Int32, x11 = v4 + 1 → J_X2_giveBack_5 E v0 v1 x10 x11 u9)))))))))) : gx_Wc E 5 5 [(0, .ref (ex_ad E v0)), (1, .int v1), (2, .long v2), (4, .int v4)] [] u := by
  refine gx_iload X (j := 3) dX2_giveBack_5 rfl ?_
  refine gx_bipush X (v := 32) dX2_giveBack_7 (by decide) ?_
  refine gx_icmp_ge X (tgt := 59) dX2_giveBack_9 (by decide) (fun c12 => ?_) (fun c12 => ?_)
  · replace h := h.1 c12
    refine gx_lload_n X (j := 2) dX2_giveBack_59 rfl rfl ?_
    exact gx_lret X hQ h dX2_giveBack_60
  · replace h := h.2 c12
    refine gx_lload_n X (j := 2) dX2_giveBack_12 rfl rfl ?_
    refine gx_aload_n X (j := 0) dX2_giveBack_13 rfl rfl ?_
    obtain ⟨k1, h⟩ := h
    refine gx_get X k1 rfl iwX2 3 (by decide) mw_94 (v := .ref (ex_ad E (gx_r u v0 3))) rfl dX2_giveBack_14 ?_
    refine gx_iload_n X (j := 1) dX2_giveBack_17 rfl rfl ?_
    refine gx_iload X (j := 3) dX2_giveBack_18 rfl ?_
    refine gx_iadd X dX2_giveBack_20 ?_
    obtain ⟨k2, h⟩ := h
    obtain ⟨k3, h⟩ := h
    refine gx_iald X k2 k3 dX2_giveBack_21 ?_
    refine gx_aload_n X (j := 0) dX2_giveBack_22 rfl rfl ?_
    refine gx_get X k1 rfl iwX2 1 (by decide) mw_92 (v := .ref (ex_ad E (gx_r u v0 1))) rfl dX2_giveBack_23 ?_
    refine gx_iload X (j := 3) dX2_giveBack_26 rfl ?_
    obtain ⟨k4, h⟩ := h
    obtain ⟨k5, h⟩ := h
    refine gx_iald X k4 k5 dX2_giveBack_28 ?_
    refine gx_iadd X dX2_giveBack_29 ?_
    refine gx_i2l X (v := (((gx_a u (gx_r u v0 3) (v1 + v4).toNatClampNeg) + (gx_a u (gx_r u v0 1) v4.toNatClampNeg))).toInt64) dX2_giveBack_30 rfl ?_
    refine gx_ladd X dX2_giveBack_31 ?_
    refine gx_naml (fun x6 ex6 => ?_)
    replace h := h x6 ex6
    refine gx_lstore_n X (lv' := [(2, .long x6), (0, .ref (ex_ad E v0)), (1, .int v1), (4, .int v4)]) dX2_giveBack_32 rfl (by decide) rfl ?_
    refine gx_aload_n X (j := 1) dX2_giveBack_33 rfl rfl ?_
    refine gx_get X k1 rfl iwX2 3 (by decide) mw_94 (v := .ref (ex_ad E (gx_r u v0 3))) rfl dX2_giveBack_34 ?_
    refine gx_iload_n X (j := 2) dX2_giveBack_37 rfl rfl ?_
    refine gx_iload X (j := 3) dX2_giveBack_38 rfl ?_
    refine gx_iadd X dX2_giveBack_40 ?_
    refine gx_lload_n X (j := 0) dX2_giveBack_41 rfl rfl ?_
    refine gx_ldc2 X (v := 65535) mw_400 dX2_giveBack_42 ?_
    refine gx_land X dX2_giveBack_45 ?_
    refine gx_l2i X (v := ((x6 &&& (65535 : Int64))).toInt32) dX2_giveBack_46 rfl ?_
    obtain ⟨k7, h⟩ := h
    obtain ⟨k8, h⟩ := h
    refine gx_iast X k7 k8 dX2_giveBack_47 ?_
    refine gx_nams (fun u9 eu9 => ?_)
    replace h := h u9 eu9
    refine gx_lload_n X (j := 0) dX2_giveBack_48 rfl rfl ?_
    refine gx_bipush X (v := 16) dX2_giveBack_49 (by decide) ?_
    refine gx_lshr X (v := (x6 >>> ((16 : Int32).toInt64 &&& 63))) dX2_giveBack_51 rfl ?_
    refine gx_naml (fun x10 ex10 => ?_)
    replace h := h x10 ex10
    refine gx_lstore_n X (lv' := [(2, .long x10), (0, .ref (ex_ad E v0)), (1, .int v1), (4, .int v4)]) dX2_giveBack_52 rfl (by decide) rfl ?_
    obtain ⟨x11, ex11⟩ : ∃ y : Int32, y = v4 + 1 := ⟨_, rfl⟩
    replace h := h x11 ex11
    refine gx_iinc X (v := x11) (lv' := [(4, .int x11), (2, .long x10), (0, .ref (ex_ad E v0)), (1, .int v1)]) dX2_giveBack_53 (j := 3) rfl (by rw [ex11]; rfl) (by decide) rfl ?_
    refine gx_goto X (tgt := 5) dX2_giveBack_56 (by decide) ?_
    exact gx_sub [2, 3, 1, 0] rfl h
-- PlainSeal$Modular.guessedDigit(I)J
theorem dX2_guessedDigit_0 : decode cX2_guessedDigit 0 = .ok (.aload_n 0, 1) := by decide +kernel
theorem dX2_guessedDigit_1 : decode cX2_guessedDigit 1 = .ok (.getfield 19, 3) := by decide +kernel
theorem dX2_guessedDigit_4 : decode cX2_guessedDigit 4 = .ok (.iload_n 1, 1) := by decide +kernel
theorem dX2_guessedDigit_5 : decode cX2_guessedDigit 5 = .ok (.bipush 32, 2) := by decide +kernel
theorem dX2_guessedDigit_7 : decode cX2_guessedDigit 7 = .ok (.iadd, 1) := by decide +kernel
theorem dX2_guessedDigit_8 : decode cX2_guessedDigit 8 = .ok (.iaload, 1) := by decide +kernel
theorem dX2_guessedDigit_9 : decode cX2_guessedDigit 9 = .ok (.i2l, 1) := by decide +kernel
theorem dX2_guessedDigit_10 : decode cX2_guessedDigit 10 = .ok (.bipush 16, 2) := by decide +kernel
theorem dX2_guessedDigit_12 : decode cX2_guessedDigit 12 = .ok (.lshl, 1) := by decide +kernel
theorem dX2_guessedDigit_13 : decode cX2_guessedDigit 13 = .ok (.aload_n 0, 1) := by decide +kernel
theorem dX2_guessedDigit_14 : decode cX2_guessedDigit 14 = .ok (.getfield 19, 3) := by decide +kernel
theorem dX2_guessedDigit_17 : decode cX2_guessedDigit 17 = .ok (.iload_n 1, 1) := by decide +kernel
theorem dX2_guessedDigit_18 : decode cX2_guessedDigit 18 = .ok (.bipush 32, 2) := by decide +kernel
theorem dX2_guessedDigit_20 : decode cX2_guessedDigit 20 = .ok (.iadd, 1) := by decide +kernel
theorem dX2_guessedDigit_21 : decode cX2_guessedDigit 21 = .ok (.iconst 1, 1) := by decide +kernel
theorem dX2_guessedDigit_22 : decode cX2_guessedDigit 22 = .ok (.isub, 1) := by decide +kernel
theorem dX2_guessedDigit_23 : decode cX2_guessedDigit 23 = .ok (.iaload, 1) := by decide +kernel
theorem dX2_guessedDigit_24 : decode cX2_guessedDigit 24 = .ok (.i2l, 1) := by decide +kernel
theorem dX2_guessedDigit_25 : decode cX2_guessedDigit 25 = .ok (.lor, 1) := by decide +kernel
theorem dX2_guessedDigit_26 : decode cX2_guessedDigit 26 = .ok (.lstore_n 2, 1) := by decide +kernel
theorem dX2_guessedDigit_27 : decode cX2_guessedDigit 27 = .ok (.lload_n 2, 1) := by decide +kernel
theorem dX2_guessedDigit_28 : decode cX2_guessedDigit 28 = .ok (.aload_n 0, 1) := by decide +kernel
theorem dX2_guessedDigit_29 : decode cX2_guessedDigit 29 = .ok (.getfield 13, 3) := by decide +kernel
theorem dX2_guessedDigit_32 : decode cX2_guessedDigit 32 = .ok (.bipush 31, 2) := by decide +kernel
theorem dX2_guessedDigit_34 : decode cX2_guessedDigit 34 = .ok (.iaload, 1) := by decide +kernel
theorem dX2_guessedDigit_35 : decode cX2_guessedDigit 35 = .ok (.ldc 63, 2) := by decide +kernel
theorem dX2_guessedDigit_37 : decode cX2_guessedDigit 37 = .ok (.ior, 1) := by decide +kernel
theorem dX2_guessedDigit_38 : decode cX2_guessedDigit 38 = .ok (.i2l, 1) := by decide +kernel
theorem dX2_guessedDigit_39 : decode cX2_guessedDigit 39 = .ok (.ldiv, 1) := by decide +kernel
theorem dX2_guessedDigit_40 : decode cX2_guessedDigit 40 = .ok (.lstore 4, 2) := by decide +kernel
theorem dX2_guessedDigit_42 : decode cX2_guessedDigit 42 = .ok (.lload 4, 2) := by decide +kernel
theorem dX2_guessedDigit_44 : decode cX2_guessedDigit 44 = .ok (.ldc2_w 53, 3) := by decide +kernel
theorem dX2_guessedDigit_47 : decode cX2_guessedDigit 47 = .ok (.invokestatic 64, 3) := by decide +kernel
theorem dX2_guessedDigit_50 : decode cX2_guessedDigit 50 = .ok (.lreturn, 1) := by decide +kernel
theorem hyX2_guessedDigit : yX2_guessedDigit.cls ≠ "java/lang/invoke/MethodHandle" ∧ yX2_guessedDigit.cls ≠ "java/lang/invoke/VarHandle" ∧ (parseMethodDescriptor yX2_guessedDigit.desc).map (fun d => d.parameters.length) = some 1 := by decide +kernel
def S_X2_guessedDigit (u : gx_S) (v0 : Nat) (v1 : Int32) (post : Int64 → gx_S → Prop) : Prop := (gx_isO v0 2 ∧ (gx_isR (gx_r u v0 3) .int ∧ vp_in (v1 + (32 : Int32)) (gx_len (gx_r u v0 3)) ∧ (vp_in ((v1 + (32 : Int32)) - (1 : Int32)) (gx_len (gx_r u v0 3)) ∧ (∀ x5 : Int64, x5 = ((((gx_a u (gx_r u v0 3) (v1 + (32 : Int32)).toNatClampNeg)).toInt64 <<< ((16 : Int32).toInt64 &&& 63)) ||| ((gx_a u (gx_r u v0 3) ((v1 + (32 : Int32)) - (1 : Int32)).toNatClampNeg)).toInt64) → (gx_isR (gx_r u v0 1) .int ∧ vp_in (31 : Int32) (gx_len (gx_r u v0 1)) ∧ (¬ (((gx_a u (gx_r u v0 1) (31 : Int32).toNatClampNeg) ||| (32768 : Int32))).toInt64 = 0 ∧ (∀ x9 : Int64, x9 = (x5 / (((gx_a u (gx_r u v0 1) (31 : Int32).toNatClampNeg) ||| (32768 : Int32))).toInt64) → post (if (65535 : Int64) < x9 then (65535 : Int64) else x9) u)))))))
set_option maxHeartbeats 4000000 in
set_option maxRecDepth 100000 in
theorem w_X2_guessedDigit {E : gx_E} (X : gx_X E cX2_guessedDigit 6 RX2 (some .long)) (hd : 1 ≤ ex_d E) {post : Int64 → gx_S → Prop} (hQ : ex_Q E = va_Ql post (gx_B (ex_Z E)) (gx_A (ex_Z E))) {u : gx_S} {v0 : Nat} {v1 : Int32} (h : S_X2_guessedDigit u v0 v1 post) : gx_Wc E 6 0 [(0, .ref (ex_ad E v0)), (1, .int v1)] [] u := by
  unfold S_X2_guessedDigit at h
  refine gx_aload_n X (j := 0) dX2_guessedDigit_0 rfl rfl ?_
  obtain ⟨k1, h⟩ := h
  refine gx_get X k1 rfl iwX2 3 (by decide) mw_94 (v := .ref (ex_ad E (gx_r u v0 3))) rfl dX2_guessedDigit_1 ?_
  refine gx_iload_n X (j := 1) dX2_guessedDigit_4 rfl rfl ?_
  refine gx_bipush X (v := 32) dX2_guessedDigit_5 (by decide) ?_
  refine gx_iadd X dX2_guessedDigit_7 ?_
  obtain ⟨k2, h⟩ := h
  obtain ⟨k3, h⟩ := h
  refine gx_iald X k2 k3 dX2_guessedDigit_8 ?_
  refine gx_i2l X (v := ((gx_a u (gx_r u v0 3) (v1 + (32 : Int32)).toNatClampNeg)).toInt64) dX2_guessedDigit_9 rfl ?_
  refine gx_bipush X (v := 16) dX2_guessedDigit_10 (by decide) ?_
  refine gx_lshl X (v := (((gx_a u (gx_r u v0 3) (v1 + (32 : Int32)).toNatClampNeg)).toInt64 <<< ((16 : Int32).toInt64 &&& 63))) dX2_guessedDigit_12 rfl ?_
  refine gx_aload_n X (j := 0) dX2_guessedDigit_13 rfl rfl ?_
  refine gx_get X k1 rfl iwX2 3 (by decide) mw_94 (v := .ref (ex_ad E (gx_r u v0 3))) rfl dX2_guessedDigit_14 ?_
  refine gx_iload_n X (j := 1) dX2_guessedDigit_17 rfl rfl ?_
  refine gx_bipush X (v := 32) dX2_guessedDigit_18 (by decide) ?_
  refine gx_iadd X dX2_guessedDigit_20 ?_
  refine gx_iconst X (v := 1) dX2_guessedDigit_21 (by decide) ?_
  refine gx_isub X dX2_guessedDigit_22 ?_
  obtain ⟨k4, h⟩ := h
  refine gx_iald X k2 k4 dX2_guessedDigit_23 ?_
  refine gx_i2l X (v := ((gx_a u (gx_r u v0 3) ((v1 + (32 : Int32)) - (1 : Int32)).toNatClampNeg)).toInt64) dX2_guessedDigit_24 rfl ?_
  refine gx_lor X dX2_guessedDigit_25 ?_
  refine gx_naml (fun x5 ex5 => ?_)
  replace h := h x5 ex5
  refine gx_lstore_n X (lv' := [(2, .long x5), (0, .ref (ex_ad E v0)), (1, .int v1)]) dX2_guessedDigit_26 rfl (by decide) rfl ?_
  refine gx_lload_n X (j := 0) dX2_guessedDigit_27 rfl rfl ?_
  refine gx_aload_n X (j := 1) dX2_guessedDigit_28 rfl rfl ?_
  refine gx_get X k1 rfl iwX2 1 (by decide) mw_92 (v := .ref (ex_ad E (gx_r u v0 1))) rfl dX2_guessedDigit_29 ?_
  refine gx_bipush X (v := 31) dX2_guessedDigit_32 (by decide) ?_
  obtain ⟨k6, h⟩ := h
  obtain ⟨k7, h⟩ := h
  refine gx_iald X k6 k7 dX2_guessedDigit_34 ?_
  refine gx_ldc X (v := 32768) mw_399 dX2_guessedDigit_35 ?_
  refine gx_ior X dX2_guessedDigit_37 ?_
  refine gx_i2l X (v := (((gx_a u (gx_r u v0 1) (31 : Int32).toNatClampNeg) ||| (32768 : Int32))).toInt64) dX2_guessedDigit_38 rfl ?_
  obtain ⟨k8, h⟩ := h
  refine gx_ldiv X dX2_guessedDigit_39 k8 ?_
  refine gx_naml (fun x9 ex9 => ?_)
  replace h := h x9 ex9
  refine gx_lstore X (lv' := [(4, .long x9), (2, .long x5), (0, .ref (ex_ad E v0)), (1, .int v1)]) dX2_guessedDigit_40 (by decide) rfl ?_
  refine gx_lload X (j := 0) dX2_guessedDigit_42 rfl ?_
  refine gx_ldc2 X (v := 65535) mw_400 dX2_guessedDigit_44 ?_
  refine gx_mminl X (Nat.le_trans (by decide) hd) mw_401 mw_402 mw_11 mw_403 (Nat.le_of_ble_eq_true rfl) dX2_guessedDigit_47 ?_
  exact gx_lret X hQ h dX2_guessedDigit_50
theorem c_X2_guessedDigit {l : Launch} {Z : gx_Z} {u : gx_S} {v0 : Nat} {v1 : Int32} {post : Int64 → gx_S → Prop} (h : S_X2_guessedDigit u v0 v1 post) : Met l yX2_guessedDigit (Cond.code yX2_guessedDigit cX2_guessedDigit 6 (some .long) :: gx_TB) (gx_rm 1) (gx_Pre Z u [.ref (Z.2.1 v0), .int v1]) (va_Ql post (gx_B Z) (gx_A Z)) 0 0 (gx_A Z) := by
  refine gx_met (by decide +kernel) (Nat.le_of_ble_eq_true rfl) ?_
  intro E X hZ hQ hD hL
  subst hZ
  exact w_X2_guessedDigit X (Nat.le_of_eq hD.symm) hQ h
/-- digit i of the 64 bytes of T from p on -/
def dgT (T : List Nat) (p i : Nat) : Int32 := nI (ch T (p + 62 - 2 * i) * 256 + ch T (p + 63 - 2 * i))
def S_X2_takeNumber (u : gx_S) (v0 : Nat) (v1 : Int32) (v2 : Nat) (post : gx_S → Prop) : Prop := ∃ (T : List Nat) (p : Nat), byL u v0 T ∧ p + 64 ≤ T.length ∧ v1 = nI p ∧ gx_isA v2 .int ∧ gx_len v2 = 32 ∧ gx_r u v0 0 ≠ v2 ∧ ∀ u', exA [v2] u u' → (∀ i, i < 32 → gx_a u' v2 i = dgT T p i) → post u'
theorem lp_X2_takeNumber {E : gx_E} (X : gx_X E cX2_takeNumber 5 RX2 none) (hd : 1 ≤ ex_d E) {post : gx_S → Prop} (hQ : ex_Q E = va_Qv post (gx_B (ex_Z E)) (gx_A (ex_Z E))) {v0 v2 p : Nat} {v1 : Int32} {T : List Nat} {u0 : gx_S} (hp : p + 64 ≤ T.length) (ha : gx_isA v2 .int) (hl : gx_len v2 = 32) (hh : ∀ u', exA [v2] u0 u' → (∀ i, i < 32 → gx_a u' v2 i = dgT T p i) → post u') :
    ∀ (n k : Nat) (u : gx_S), 32 - k = n → k ≤ 32 → byL u v0 T → gx_r u v0 0 ≠ v2 → exA [v2] u0 u → (∀ i, i < k → gx_a u v2 i = dgT T p i) → J_X2_takeNumber_10 E v0 v1 v2 (nI (p + 63)) (nI k) u := by
  intro n
  induction n with
  | zero =>
    intro k u hn hk hT hr hx hg
    exact w_X2_takeNumber_10 X hd hQ ⟨fun _ => hh u hx (fun i hi => hg i (by omega)), fun q => absurd (nI_le (a := 32) (by omega) (by omega)) q⟩
  | succ n ih =>
    intro k u hn hk hT hr hx hg
    have hT2 := hT.2.2.2.2.1
    have c1 : ch T (p + 62 - 2 * k) < 256 := ch_lt hT.2.2.2.2.2.1 (by omega)
    have c2 : ch T (p + 63 - 2 * k) < 256 := ch_lt hT.2.2.2.2.2.1 (by omega)
    refine w_X2_takeNumber_10 X hd hQ ⟨fun q => absurd q (nI_ge (b := 32) (by omega) (by omega)), fun _ => ?_⟩
    rw [show (2 : Int32) = nI 2 from rfl, pk_mul, pk_sub (by omega), nsub (a := p + 63 - 2 * k) (b := 1) (B := 1) (by omega) rfl, show p + 63 - 2 * k - 1 = p + 62 - 2 * k by omega]
    refine ⟨hT.1, i_X0_at hT (by omega) (i_X0_at hT (by omega) ⟨ha, by rw [hl]; exact vp_in_nI (by omega) (by omega), ?_⟩)⟩
    rw [cI_lo c1, cI_lo c2, shl8_or (by omega) c2]
    rintro u8 rfl x9 rfl
    rw [nI_1, nI_clamp (by omega)]
    refine ih (k + 1) _ (by omega) (by omega) (byL_pa hT hr) hr (exA_tr hx (exA_pa _ _ (by simp))) (fun i hi => ?_)
    rw [gx_a_pa, if_pos rfl]
    by_cases e : i = k
    · rw [e, pk_us]; rfl
    · rw [pk_un e]; exact hg i (by omega)
theorem w_X2_takeNumber {E : gx_E} (X : gx_X E cX2_takeNumber 5 RX2 none) (hd : 1 ≤ ex_d E) {post : gx_S → Prop} (hQ : ex_Q E = va_Qv post (gx_B (ex_Z E)) (gx_A (ex_Z E))) {u : gx_S} {v0 : Nat} {v1 : Int32} {v2 : Nat} (h : S_X2_takeNumber u v0 v1 v2 post) : gx_Wc E 5 0 [(0, .ref (ex_ad E v0)), (1, .int v1), (2, .ref (ex_ad E v2))] [] u := by
  obtain ⟨T, p, hT, hp, rfl, ha, hl, hr, hh⟩ := h
  have hT2 := hT.2.2.2.2.1
  refine w_X2_takeNumber_0 X hd hQ ?_
  intro x1 e1
  rw [show (64 : Int32) = nI 64 from rfl, nI_add, nsub (a := p + 64) (b := 1) (B := 1) (by omega) rfl, show p + 64 - 1 = p + 63 by omega] at e1
  subst e1
  exact lp_X2_takeNumber X hd hQ hp ha hl hh 32 0 u (by omega) (by omega) hT hr (exA_rf _ _) (fun i hi => by omega)
theorem c_X2_takeNumber {l : Launch} {Z : gx_Z} {u : gx_S} {v0 : Nat} {v1 : Int32} {v2 : Nat} {post : gx_S → Prop} (h : S_X2_takeNumber u v0 v1 v2 post) : Met l yX2_takeNumber (Cond.code yX2_takeNumber cX2_takeNumber 5 none :: gx_TB) (gx_rm 1) (gx_Pre Z u [.ref (Z.2.1 v0), .int v1, .ref (Z.2.1 v2)]) (va_Qv post (gx_B Z) (gx_A Z)) 0 0 (gx_A Z) := by
  refine gx_met (by decide +kernel) (Nat.le_of_ble_eq_true rfl) ?_
  intro E X hZ hQ hD hL
  subst hZ
  exact w_X2_takeNumber X (Nat.le_of_eq hD.symm) hQ h
-- multiplyRestBy
theorem isA19 : gx_isA 19 .int := ⟨by decide, rfl⟩
theorem isA20 : gx_isA 20 .int := ⟨by decide, rfl⟩
theorem isA18 : gx_isA 18 .int := ⟨by decide, rfl⟩
theorem isA17 : gx_isA 17 .int := ⟨by decide, rfl⟩
theorem in20 {i : Nat} (h : i < 64) : vp_in (nI i) (gx_len 20) := vp_in_nI (N := 64) h (by omega)
theorem in32 {a i : Nat} (ha : gx_len a = 32) (h : i < 32) : vp_in (nI i) (gx_len a) := by rw [ha]; exact vp_in_nI h (by omega)
def S_X2_multiplyRestBy (u : gx_S) (v0 v1 : Nat) (post : gx_S → Prop) : Prop := v0 = 8 ∧ cfix u ∧ gx_isR v1 .int ∧ gx_len v1 = 32 ∧ v1 ≠ 20 ∧ okD (gx_a u 19) 32 ∧ okD (gx_a u v1) 32 ∧ ∀ u', exA [20] u u' → okD (gx_a u' 20) 64 → vA (gx_a u' 20) 64 = vA (gx_a u 19) 32 * vA (gx_a u v1) 32 → post u'
theorem lp3_X2_multiplyRestBy {E : gx_E} (X : gx_X E cX2_multiplyRestBy 6 RX2 none) (hd : 0 ≤ ex_d E) {post : gx_S → Prop} (hQ : ex_Q E = va_Qv post (gx_B (ex_Z E)) (gx_A (ex_Z E))) {v1 i : Nat} {R O P0 : Nat → Int32} {u0 : gx_S} (h1 : gx_isR v1 .int) (h2 : gx_len v1 = 32) (h3 : v1 ≠ 20) (hi : i < 32) (hR : okD R 32) (hO : okD O 32)
    (next : ∀ u, exA [20] u0 u → okD (gx_a u 20) (i + 33) → vA (gx_a u 20) (i + 33) = vA P0 (i + 32) + dv (R i) * 65536 ^ i * vA O 32 → J_X2_multiplyRestBy_23 E 8 v1 (nI (i + 1)) u) (hf0 : cfix u0) (hR0 : ∀ j, j < 32 → gx_a u0 19 j = R j) (hO0 : ∀ j, j < 32 → gx_a u0 v1 j = O j) :
    ∀ (n j c : Nat) (u : gx_S), 32 - j = n → j ≤ 32 → c < 65536 → exA [20] u0 u → okD (gx_a u 20) (i + 32) → vA (gx_a u 20) (i + 32) + c * 65536 ^ (i + j) = vA P0 (i + 32) + dv (R i) * 65536 ^ i * vA O j → J_X2_multiplyRestBy_34 E 8 v1 (nI i) (lz c) (nI j) u := by
  intro n
  induction n with
  | zero =>
    intro j c u hn hj hc hx hP he
    have ej : j = 32 := by omega
    subst ej
    have e3 : gx_r u 8 3 = 20 := (exA_r hx 8 3).trans (hf0 8 3 (by decide))
    refine w_X2_multiplyRestBy_34 X hd hQ ⟨fun _ => ?_, fun q => absurd (nI_le (a := 32) (by omega) (by omega)) q⟩
    rw [e3, show (32 : Int32) = nI 32 from rfl, nI_add]
    refine ⟨isO_x 8 2 (by decide), isA20, in20 (by omega), ?_⟩
    rintro u4 rfl x5 rfl
    rw [nI_1, nI_clamp (by omega), lz_i]
    refine next _ (exA_tr hx (exA_pa _ _ (by simp))) ?_ ?_
    · rw [gx_a_pa, if_pos rfl]
      intro k hk
      by_cases e : k = i + 32
      · rw [e, pk_us, dv_nI (by omega)]; exact hc
      · rw [pk_un e]; exact hP k (by omega)
    · rw [gx_a_pa, if_pos rfl, show i + 33 = (i + 32) + 1 by omega, vA, vA_ge _ (Nat.le_refl _), pk_us, dv_nI (by omega)]
      exact he
  | succ n ih =>
    intro j c u hn hj hc hx hP he
    have e3 : gx_r u 8 3 = 20 := (exA_r hx 8 3).trans (hf0 8 3 (by decide))
    have e2 : gx_r u 8 2 = 19 := (exA_r hx 8 2).trans (hf0 8 2 (by decide))
    have eR : gx_a u 19 i = R i := by rw [hx.2.2.2 19 (by decide)]; exact hR0 i hi
    have eO : gx_a u v1 j = O j := by rw [hx.2.2.2 v1 (by simpa using h3)]; exact hO0 j (by omega)
    have bR := hR i hi
    have bO := hO j (by omega)
    have bP := hP (i + j) (by omega)
    have bM : dv (R i) * dv (O j) ≤ 65535 * 65535 := Nat.mul_le_mul (by omega) (by omega)
    refine w_X2_multiplyRestBy_34 X hd hQ ⟨fun q => absurd q (nI_ge (b := 32) (by omega) (by omega)), fun _ => ?_⟩
    rw [e3, e2, nI_add, nI_clamp (by omega), nI_clamp (by omega), nI_clamp (by omega), eR, eO]
    refine ⟨isO_x 8 2 (by decide), isA20.r, in20 (by omega), isA19.r, in32 rfl hi, h1, in32 h2 (by omega), ?_⟩
    intro x13 e13
    rw [lz_dv bP, lz_dv bR, lz_dv bO, lz_mul, lz_add, lz_add, show ((c : Int) + ((dv (gx_a u 20 (i + j)) : Int) + (dv (R i) : Int) * (dv (O j) : Int))) = ((c + dv (gx_a u 20 (i + j)) + dv (R i) * dv (O j) : Nat) : Int) by push_cast; omega] at e13
    generalize hxx : c + dv (gx_a u 20 (i + j)) + dv (R i) * dv (O j) = x at e13
    have hxb : x < 4294967296 := by omega
    refine ⟨isA20, in20 (by omega), ?_⟩
    rintro u16 rfl x17 e17 x18 rfl
    rw [nI_1]
    subst e13
    rw [lz_shr (by omega) (by omega), show ((x : Int) / 65536) = ((x / 65536 : Nat) : Int) by omega] at e17
    subst e17
    rw [lz_and, show ((x : Int) % 65536).toNat = x % 65536 by omega]
    refine ih (j + 1) (x / 65536) _ (by omega) (by omega) (by omega) (exA_tr hx (exA_pa _ _ (by simp))) ?_ ?_
    · rw [gx_a_pa, if_pos rfl]; exact okD_upd hP (by omega)
    · rw [gx_a_pa, if_pos rfl]
      have hu := vA_upd (a := gx_a u 20) (k := i + j) (x := nI (x % 65536)) (i + 32) (by omega)
      rw [dv_nI (by omega)] at hu
      have hs := sp_mul x (65536 ^ (i + j))
      rw [show i + (j + 1) = (i + j) + 1 by omega, pow_s, vA_s O j, Nat.mul_add]
      have e1 : x * 65536 ^ (i + j) = c * 65536 ^ (i + j) + dv (gx_a u 20 (i + j)) * 65536 ^ (i + j) + dv (R i) * dv (O j) * 65536 ^ (i + j) := by rw [← hxx, Nat.add_mul, Nat.add_mul]
      have e2 : dv (R i) * 65536 ^ i * (dv (O j) * 65536 ^ j) = dv (R i) * dv (O j) * 65536 ^ (i + j) := by
        rw [Nat.pow_add, Nat.mul_assoc, Nat.mul_assoc, Nat.mul_left_comm (65536 ^ i)]
      omega
theorem lp2_X2_multiplyRestBy {E : gx_E} (X : gx_X E cX2_multiplyRestBy 6 RX2 none) (hd : 0 ≤ ex_d E) {post : gx_S → Prop} (hQ : ex_Q E = va_Qv post (gx_B (ex_Z E)) (gx_A (ex_Z E))) {v1 : Nat} {R O : Nat → Int32} {u0 : gx_S} (h1 : gx_isR v1 .int) (h2 : gx_len v1 = 32) (h3 : v1 ≠ 20) (hR : okD R 32) (hO : okD O 32) (hf0 : cfix u0) (hR0 : ∀ j, j < 32 → gx_a u0 19 j = R j) (hO0 : ∀ j, j < 32 → gx_a u0 v1 j = O j)
    (hp : ∀ u', exA [20] u0 u' → okD (gx_a u' 20) 64 → vA (gx_a u' 20) 64 = vA R 32 * vA O 32 → post u') :
    ∀ (n i : Nat) (u : gx_S), 32 - i = n → i ≤ 32 → exA [20] u0 u → okD (gx_a u 20) (i + 32) → vA (gx_a u 20) (i + 32) = vA R i * vA O 32 → J_X2_multiplyRestBy_23 E 8 v1 (nI i) u := by
  intro n
  induction n with
  | zero =>
    intro i u hn hi hx hP he
    have ei : i = 32 := by omega
    subst ei
    exact w_X2_multiplyRestBy_23 X hd hQ ⟨fun _ => hp u hx hP he, fun q => absurd (nI_le (a := 32) (by omega) (by omega)) q⟩
  | succ n ih =>
    intro i u hn hi hx hP he
    refine w_X2_multiplyRestBy_23 X hd hQ ⟨fun q => absurd q (nI_ge (b := 32) (by omega) (by omega)), fun _ => ?_⟩
    refine lp3_X2_multiplyRestBy X hd hQ (P0 := gx_a u 20) h1 h2 h3 (by omega) hR hO (fun v hv hok hval => ?_) hf0 hR0 hO0 32 0 0 u (by omega) (by omega) (by omega) hx hP (by rw [Nat.zero_mul, vA_0, Nat.mul_zero])
    refine ih (i + 1) v (by omega) (by omega) hv (by rw [show i + 1 + 32 = i + 33 by omega]; exact hok) ?_
    rw [show i + 1 + 32 = i + 33 by omega, hval, he, vA_s R i, Nat.add_mul]
theorem lp1_X2_multiplyRestBy {E : gx_E} (X : gx_X E cX2_multiplyRestBy 6 RX2 none) (hd : 0 ≤ ex_d E) {post : gx_S → Prop} (hQ : ex_Q E = va_Qv post (gx_B (ex_Z E)) (gx_A (ex_Z E))) {v1 : Nat} {u0 : gx_S} (hf0 : cfix u0) (next : ∀ u, exA [20] u0 u → (∀ j, j < 32 → gx_a u 20 j = 0) → J_X2_multiplyRestBy_23 E 8 v1 (0 : Int32) u) :
    ∀ (n i : Nat) (u : gx_S), 32 - i = n → i ≤ 32 → exA [20] u0 u → (∀ j, j < i → gx_a u 20 j = 0) → J_X2_multiplyRestBy_2 E 8 v1 (nI i) u := by
  intro n
  induction n with
  | zero =>
    intro i u hn hi hx hz
    exact w_X2_multiplyRestBy_2 X hd hQ ⟨fun _ => next u hx (fun j hj => hz j (by omega)), fun q => absurd (nI_le (a := 32) (by omega) (by omega)) q⟩
  | succ n ih =>
    intro i u hn hi hx hz
    have e3 : gx_r u 8 3 = 20 := (exA_r hx 8 3).trans (hf0 8 3 (by decide))
    refine w_X2_multiplyRestBy_2 X hd hQ ⟨fun q => absurd q (nI_ge (b := 32) (by omega) (by omega)), fun _ => ?_⟩
    rw [e3]
    refine ⟨isO_x 8 2 (by decide), isA20, in20 (by omega), ?_⟩
    rintro u4 rfl x5 rfl
    rw [nI_1, nI_clamp (by omega)]
    refine ih (i + 1) _ (by omega) (by omega) (exA_tr hx (exA_pa _ _ (by simp))) (fun j hj => ?_)
    rw [gx_a_pa, if_pos rfl]
    by_cases e : j = i
    · rw [e, pk_us]
    · rw [pk_un e]; exact hz j (by omega)
theorem w_X2_multiplyRestBy {E : gx_E} (X : gx_X E cX2_multiplyRestBy 6 RX2 none) (hd : 0 ≤ ex_d E) {post : gx_S → Prop} (hQ : ex_Q E = va_Qv post (gx_B (ex_Z E)) (gx_A (ex_Z E))) {u : gx_S} {v0 v1 : Nat} (h : S_X2_multiplyRestBy u v0 v1 post) : gx_Wc E 6 0 [(0, .ref (ex_ad E v0)), (1, .ref (ex_ad E v1))] [] u := by
  obtain ⟨rfl, hf, h1, h2, h3, hR, hO, hp⟩ := h
  have z0 : ∀ (a : Nat → Int32), (∀ j, j < 32 → a j = 0) → vA a 32 = 0 := by
    intro a ha
    rw [vA_cg (b := fun _ => 0) 32 ha]
    decide +kernel
  refine w_X2_multiplyRestBy_0 X hd hQ (lp1_X2_multiplyRestBy X hd hQ hf (fun v hv hz => ?_) 32 0 u (by omega) (by omega) (exA_rf _ _) (fun j hj => by omega))
  refine lp2_X2_multiplyRestBy X hd hQ h1 h2 h3 hR hO hf (fun _ _ => rfl) (fun _ _ => rfl) hp 32 0 v (by omega) (by omega) hv (fun j hj => by rw [hz j (by omega)]; decide) ?_
  rw [show 0 + 32 = 32 from rfl, z0 _ hz, vA_0, Nat.zero_mul]
theorem c_X2_multiplyRestBy {l : Launch} {Z : gx_Z} {u : gx_S} {v0 : Nat} {v1 : Nat} {post : gx_S → Prop} (h : S_X2_multiplyRestBy u v0 v1 post) : Met l yX2_multiplyRestBy (Cond.code yX2_multiplyRestBy cX2_multiplyRestBy 6 none :: gx_TB) (gx_rm 0) (gx_Pre Z u [.ref (Z.2.1 v0), .ref (Z.2.1 v1)]) (va_Qv post (gx_B Z) (gx_A Z)) 0 0 (gx_A Z) := by
  refine gx_met (by decide +kernel) (Nat.le_of_ble_eq_true rfl) ?_
  intro E X hZ hQ hD hL
  subst hZ
  exact w_X2_multiplyRestBy X (Nat.le_of_eq hD.symm) hQ h
end
section
theorem sl_cg {a b : Nat → Int32} {p n : Nat} (h : ∀ j, j < n → a (p + j) = b (p + j)) : vA (sl a p) n = vA (sl b p) n := vA_cg n (fun j hj => h j hj)
theorem okD_sl {a : Nat → Int32} {p n m : Nat} (h : okD a m) (hm : p + n ≤ m) : okD (sl a p) n := fun j hj => h (p + j) (by omega)
def S_X2_giveBack (u : gx_S) (v0 : Nat) (v1 : Int32) (post : Int64 → gx_S → Prop) : Prop := v0 = 8 ∧ cfix u ∧ ∃ p : Nat, p ≤ 31 ∧ v1 = nI p ∧ okD (gx_a u 20) 64 ∧ okD (gx_a u 18) 32 ∧ ∀ (u' : gx_S) (c : Nat), exA [20] u u' → c ≤ 1 → okD (gx_a u' 20) 64 → (∀ j, (j < p ∨ p + 32 ≤ j) → gx_a u' 20 j = gx_a u 20 j) → vA (sl (gx_a u' 20) p) 32 + c * 65536 ^ 32 = vA (sl (gx_a u 20) p) 32 + vA (gx_a u 18) 32 → post (lz c) u'
theorem lp_X2_giveBack {E : gx_E} (X : gx_X E cX2_giveBack 5 RX2 (some .long)) (hd : 0 ≤ ex_d E) {post : Int64 → gx_S → Prop} (hQ : ex_Q E = va_Ql post (gx_B (ex_Z E)) (gx_A (ex_Z E))) {p : Nat} {u0 : gx_S} (hp : p ≤ 31) (hf0 : cfix u0) (hM : okD (gx_a u0 18) 32)
    (hh : ∀ (u' : gx_S) (c : Nat), exA [20] u0 u' → c ≤ 1 → okD (gx_a u' 20) 64 → (∀ j, (j < p ∨ p + 32 ≤ j) → gx_a u' 20 j = gx_a u0 20 j) → vA (sl (gx_a u' 20) p) 32 + c * 65536 ^ 32 = vA (sl (gx_a u0 20) p) 32 + vA (gx_a u0 18) 32 → post (lz c) u') :
    ∀ (n i c : Nat) (u : gx_S), 32 - i = n → i ≤ 32 → c ≤ 1 → exA [20] u0 u → okD (gx_a u 20) 64 → (∀ j, (j < p ∨ p + 32 ≤ j) → gx_a u 20 j = gx_a u0 20 j) → vA (sl (gx_a u 20) p) 32 + c * 65536 ^ i = vA (sl (gx_a u0 20) p) 32 + vA (gx_a u0 18) i → J_X2_giveBack_5 E 8 (nI p) (lz c) (nI i) u := by
  intro n
  induction n with
  | zero =>
    intro i c u hn hi hc hx hP ho he
    have ei : i = 32 := by omega
    subst ei
    exact w_X2_giveBack_5 X hd hQ ⟨fun _ => hh u c hx hc hP ho he, fun q => absurd (nI_le (a := 32) (by omega) (by omega)) q⟩
  | succ n ih =>
    intro i c u hn hi hc hx hP ho he
    have e3 : gx_r u 8 3 = 20 := (exA_r hx 8 3).trans (hf0 8 3 (by decide))
    have e1 : gx_r u 8 1 = 18 := (exA_r hx 8 1).trans (hf0 8 1 (by decide))
    have bP := hP (p + i) (by omega)
    have bM := hM i (by omega)
    refine w_X2_giveBack_5 X hd hQ ⟨fun q => absurd q (nI_ge (b := 32) (by omega) (by omega)), fun _ => ?_⟩
    rw [e3, e1, nI_add, nI_clamp (by omega), nI_clamp (by omega), hx.2.2.2 18 (by decide)]
    refine ⟨isO_x 8 2 (by decide), isA20.r, in20 (by omega), isA18.r, in32 rfl (by omega), ?_⟩
    intro x6 e6
    rw [← nI_dv (gx_a u 20 (p + i)), ← nI_dv (gx_a u0 18 i), nI_add, nI_l (by omega), lz_n, lz_add, show ((c : Int) + ((dv (gx_a u 20 (p + i)) + dv (gx_a u0 18 i) : Nat) : Int)) = ((c + (dv (gx_a u 20 (p + i)) + dv (gx_a u0 18 i)) : Nat) : Int) by push_cast; rfl] at e6
    generalize hxx : c + (dv (gx_a u 20 (p + i)) + dv (gx_a u0 18 i)) = x at e6
    subst e6
    refine ⟨isA20, in20 (by omega), ?_⟩
    rintro u9 rfl x10 e10 x11 rfl
    rw [nI_1]
    rw [lz_shr (by omega) (by omega), show ((x : Int) / 65536) = ((x / 65536 : Nat) : Int) by omega] at e10
    subst e10
    rw [lz_and, show ((x : Int) % 65536).toNat = x % 65536 by omega]
    refine ih (i + 1) (x / 65536) _ (by omega) (by omega) (by omega) (exA_tr hx (exA_pa _ _ (by simp))) ?_ (fun j hj => ?_) ?_
    · rw [gx_a_pa, if_pos rfl]; exact okD_upd hP (by omega)
    · rw [gx_a_pa, if_pos rfl, pk_un (by omega)]; exact ho j hj
    · rw [gx_a_pa, if_pos rfl, sl_upd]
      have hu := vA_upd (a := sl (gx_a u 20) p) (k := i) (x := nI (x % 65536)) 32 (by omega)
      rw [dv_nI (by omega), show sl (gx_a u 20) p i = gx_a u 20 (p + i) from rfl] at hu
      have hs := sp_mul x (65536 ^ i)
      have e1 : x * 65536 ^ i = c * 65536 ^ i + (dv (gx_a u 20 (p + i)) * 65536 ^ i + dv (gx_a u0 18 i) * 65536 ^ i) := by rw [← hxx, Nat.add_mul, Nat.add_mul]
      rw [pow_s, vA_s (gx_a u0 18) i]
      omega
theorem w_X2_giveBack {E : gx_E} (X : gx_X E cX2_giveBack 5 RX2 (some .long)) (hd : 0 ≤ ex_d E) {post : Int64 → gx_S → Prop} (hQ : ex_Q E = va_Ql post (gx_B (ex_Z E)) (gx_A (ex_Z E))) {u : gx_S} {v0 : Nat} {v1 : Int32} (h : S_X2_giveBack u v0 v1 post) : gx_Wc E 5 0 [(0, .ref (ex_ad E v0)), (1, .int v1)] [] u := by
  obtain ⟨rfl, hf, p, hp, rfl, hP, hM, hh⟩ := h
  exact w_X2_giveBack_0 X hd hQ (lp_X2_giveBack X hd hQ hp hf hM hh 32 0 0 u (by omega) (by omega) (by omega) (exA_rf _ _) hP (fun _ _ => rfl) (by rw [Nat.zero_mul, vA_0]))
theorem c_X2_giveBack {l : Launch} {Z : gx_Z} {u : gx_S} {v0 : Nat} {v1 : Int32} {post : Int64 → gx_S → Prop} (h : S_X2_giveBack u v0 v1 post) : Met l yX2_giveBack (Cond.code yX2_giveBack cX2_giveBack 5 (some .long) :: gx_TB) (gx_rm 0) (gx_Pre Z u [.ref (Z.2.1 v0), .int v1]) (va_Ql post (gx_B Z) (gx_A Z)) 0 0 (gx_A Z) := by
  refine gx_met (by decide +kernel) (Nat.le_of_ble_eq_true rfl) ?_
  intro E X hZ hQ hD hL
  subst hZ
  exact w_X2_giveBack X (Nat.le_of_eq hD.symm) hQ h
-- the guess
theorem kn_lo {U Ul t Mv Ml m A q : Nat} (hU : U = Ul + A * t) (hUl : Ul < A) (hM : Mv = Ml + A * m) (hm : 0 < m) (hq : q * Mv ≤ U) : q ≤ t / m := by
  rw [Nat.le_div_iff_mul_le hm]
  refine Nat.not_lt.mp (fun h => ?_)
  have h1 : A * (t + 1) ≤ A * (q * m) := Nat.mul_le_mul_left A h
  have h2 : q * Mv = q * Ml + A * (q * m) := by rw [hM, Nat.mul_add, Nat.mul_left_comm]
  rw [Nat.mul_add] at h1
  omega
theorem kn_hi {U Ul t Mv Ml m A q : Nat} (hU : U = Ul + A * t) (hM : Mv = Ml + A * m) (hMl : Ml < A) (hm : 32768 ≤ m) (hq : q ≤ t / m) (hqB : q < 65536) : q * Mv < U + 2 * Mv := by
  have h1 : q * m ≤ t := (Nat.le_div_iff_mul_le (by omega)).mp hq
  have h2 : A * (q * m) ≤ A * t := Nat.mul_le_mul_left A h1
  have h3 : q * Mv = q * Ml + A * (q * m) := by rw [hM, Nat.mul_add, Nat.mul_left_comm]
  have h4 : q * Ml ≤ 65535 * Ml := Nat.mul_le_mul_right Ml (by omega)
  have h5 : A * 32768 ≤ A * m := Nat.mul_le_mul_left A hm
  omega
theorem i_X2_guessedDigit {u : gx_S} {p : Nat} {post : Int64 → gx_S → Prop} (hf : cfix u) (hp : p ≤ 31) (hP : okD (gx_a u 20) 64) (hM : okD (gx_a u 18) 32) (hm : 32768 ≤ dv (gx_a u 18 31)) (hU : vA (sl (gx_a u 20) p) 33 < 65536 * vA (gx_a u 18) 32) (h : ∀ q : Nat, q < 65536 → vA (sl (gx_a u 20) p) 33 / vA (gx_a u 18) 32 ≤ q → q ≤ vA (sl (gx_a u 20) p) 33 / vA (gx_a u 18) 32 + 2 → post (lz q) u) : S_X2_guessedDigit u 8 (nI p) post := by
  have b1 := hP (p + 32) (by omega)
  have b2' := hP (p + 31) (by omega)
  have bm := hM 31 (by omega)
  unfold S_X2_guessedDigit
  rw [show gx_r u 8 3 = 20 from hf 8 3 (by decide), show gx_r u 8 1 = 18 from hf 8 1 (by decide), show (32 : Int32) = nI 32 from rfl, nI_add, nsub (a := p + 32) (b := 1) (B := 1) (by omega) rfl, nI_clamp (by omega), nI_clamp (by omega), show p + 32 - 1 = p + 31 by omega, show (31 : Int32).toNatClampNeg = 31 from rfl]
  refine ⟨isO_x 8 2 (by decide), isA20.r, in20 (by omega), in20 (by omega), ?_⟩
  intro x5 e5
  have hm2 : (gx_a u 18 31 ||| (32768 : Int32)) = gx_a u 18 31 := by
    rw [← nI_dv (gx_a u 18 31), show (32768 : Int32) = nI 32768 from rfl, nI_or (by omega) (by omega)]
    congr 1
    have hb : ∀ m : Fin 65536, 32768 ≤ m.val → m.val ||| 32768 = m.val := by
      intro m hm
      have e : m.val = 2 ^ 15 * 1 + (m.val - 32768) := by omega
      have l : m.val - 32768 < 2 ^ 15 := by have := m.isLt; omega
      rw [e, Nat.two_pow_add_eq_or_of_lt l, Nat.or_assoc, Nat.or_comm _ 32768, ← Nat.or_assoc]
      simp
    exact hb ⟨dv (gx_a u 18 31), bm⟩ hm
  rw [lz_dv b1, lz_dv b2', ← lz_n, ← lz_n, show (16 : Int32) = nI 16 from rfl, wb_shl _ (by omega), wb_or (by omega) (by omega), Nat.mul_comm (dv (gx_a u 20 (p + 32))), ← Nat.two_pow_add_eq_or_of_lt (by omega)] at e5
  subst e5
  refine ⟨isA18.r, in32 (i := 31) rfl (by omega), ?_, ?_⟩
  · rw [hm2, lz_dv bm, ← lz_n]
    intro e
    have := (pk_lEQ (b := 0) (by omega) (by omega)).mp e
    omega
  · intro x9 e9
    rw [hm2, lz_dv bm, ← lz_n, pk_lDiv (by omega) (by omega) (by omega)] at e9
    subst e9
    have hdl : (2 ^ 16 * dv (gx_a u 20 (p + 32)) + dv (gx_a u 20 (p + 31))) / dv (gx_a u 18 31) ≤ 2 ^ 16 * dv (gx_a u 20 (p + 32)) + dv (gx_a u 20 (p + 31)) := Nat.div_le_self _ _
    generalize ht : 2 ^ 16 * dv (gx_a u 20 (p + 32)) + dv (gx_a u 20 (p + 31)) = t at hdl ⊢
    have hUe : vA (sl (gx_a u 20) p) 33 = vA (sl (gx_a u 20) p) 31 + 65536 ^ 31 * t := by
      rw [vA_s _ 32, vA_s _ 31, show sl (gx_a u 20) p 31 = gx_a u 20 (p + 31) from rfl, show sl (gx_a u 20) p 32 = gx_a u 20 (p + 32) from rfl, ← ht, Nat.mul_add, show (65536 : Nat) ^ 32 = 65536 * 65536 ^ 31 from pow_s 31, Nat.mul_comm (65536 ^ 31) (dv (gx_a u 20 (p + 31)))]
      have e : 65536 ^ 31 * (2 ^ 16 * dv (gx_a u 20 (p + 32))) = dv (gx_a u 20 (p + 32)) * (65536 * 65536 ^ 31) := by
        rw [Nat.mul_comm (65536 ^ 31), show (2 : Nat) ^ 16 = 65536 from rfl, Nat.mul_comm 65536 (dv _), Nat.mul_assoc]
      omega
    have hMe : vA (gx_a u 18) 32 = vA (gx_a u 18) 31 + 65536 ^ 31 * dv (gx_a u 18 31) := by rw [vA_s _ 31, Nat.mul_comm]
    have l1 : vA (sl (gx_a u 20) p) 31 < 65536 ^ 31 := vA_lt 31 (okD_sl hP (by omega))
    have l2 : vA (gx_a u 18) 31 < 65536 ^ 31 := vA_lt 31 (fun j hj => hM j (by omega))
    have hpos : 0 < vA (gx_a u 18) 32 := by
      rw [hMe]
      have : 65536 ^ 31 * 32768 ≤ 65536 ^ 31 * dv (gx_a u 18 31) := Nat.mul_le_mul_left _ hm
      have : 0 < 65536 ^ 31 := Nat.pow_pos (by omega)
      omega
    generalize vA (sl (gx_a u 20) p) 33 = U at hU h hUe ⊢
    generalize vA (gx_a u 18) 32 = Mv at hU h hMe hpos ⊢
    have hlow : U / Mv ≤ t / dv (gx_a u 18 31) := kn_lo hUe l1 hMe (by omega) (Nat.div_mul_le_self U Mv)
    have hlt : U / Mv < 65536 := (Nat.div_lt_iff_lt_mul hpos).mpr hU
    have up : ∀ q, q ≤ t / dv (gx_a u 18 31) → q < 65536 → q ≤ U / Mv + 2 := by
      intro q h1 h2
      have h3 := kn_hi hUe hMe l2 hm h1 h2
      have h4 : (q - 2) * Mv ≤ U := by rw [Nat.sub_mul]; omega
      have := (Nat.le_div_iff_mul_le hpos).mpr h4
      omega
    rw [show (65535 : Int64) = lN 65535 from rfl]
    split
    · rename_i hq
      rw [pk_lLT (by omega) (by omega)] at hq
      rw [lz_n]
      exact h 65535 (by omega) (by omega) (up _ (by omega) (by omega))
    · rename_i hq
      rw [pk_lLT (by omega) (by omega)] at hq
      rw [lz_n]
      exact h _ (by omega) hlow (up _ (Nat.le_refl _) (by omega))
end
section
-- PlainSeal$Modular.takeAway(IJ)V
theorem dX2_takeAway_0 : decode cX2_takeAway 0 = .ok (.lconst 0, 1) := by decide +kernel
theorem dX2_takeAway_1 : decode cX2_takeAway 1 = .ok (.lstore 4, 2) := by decide +kernel
theorem dX2_takeAway_3 : decode cX2_takeAway 3 = .ok (.iconst 0, 1) := by decide +kernel
theorem dX2_takeAway_4 : decode cX2_takeAway 4 = .ok (.istore 6, 2) := by decide +kernel
theorem dX2_takeAway_6 : decode cX2_takeAway 6 = .ok (.iload 6, 2) := by decide +kernel
theorem dX2_takeAway_8 : decode cX2_takeAway 8 = .ok (.bipush 32, 2) := by decide +kernel
theorem dX2_takeAway_10 : decode cX2_takeAway 10 = .ok (.if_icmp .ge 58, 3) := by decide +kernel
theorem dX2_takeAway_13 : decode cX2_takeAway 13 = .ok (.lload 4, 2) := by decide +kernel
theorem dX2_takeAway_15 : decode cX2_takeAway 15 = .ok (.aload_n 0, 1) := by decide +kernel
theorem dX2_takeAway_16 : decode cX2_takeAway 16 = .ok (.getfield 19, 3) := by decide +kernel
theorem dX2_takeAway_19 : decode cX2_takeAway 19 = .ok (.iload_n 1, 1) := by decide +kernel
theorem dX2_takeAway_20 : decode cX2_takeAway 20 = .ok (.iload 6, 2) := by decide +kernel
theorem dX2_takeAway_22 : decode cX2_takeAway 22 = .ok (.iadd, 1) := by decide +kernel
theorem dX2_takeAway_23 : decode cX2_takeAway 23 = .ok (.iaload, 1) := by decide +kernel
theorem dX2_takeAway_24 : decode cX2_takeAway 24 = .ok (.i2l, 1) := by decide +kernel
theorem dX2_takeAway_25 : decode cX2_takeAway 25 = .ok (.lload_n 2, 1) := by decide +kernel
theorem dX2_takeAway_26 : decode cX2_takeAway 26 = .ok (.aload_n 0, 1) := by decide +kernel
theorem dX2_takeAway_27 : decode cX2_takeAway 27 = .ok (.getfield 13, 3) := by decide +kernel
theorem dX2_takeAway_30 : decode cX2_takeAway 30 = .ok (.iload 6, 2) := by decide +kernel
theorem dX2_takeAway_32 : decode cX2_takeAway 32 = .ok (.iaload, 1) := by decide +kernel
theorem dX2_takeAway_33 : decode cX2_takeAway 33 = .ok (.i2l, 1) := by decide +kernel
theorem dX2_takeAway_34 : decode cX2_takeAway 34 = .ok (.lmul, 1) := by decide +kernel
theorem dX2_takeAway_35 : decode cX2_takeAway 35 = .ok (.lsub, 1) := by decide +kernel
theorem dX2_takeAway_36 : decode cX2_takeAway 36 = .ok (.ladd, 1) := by decide +kernel
theorem dX2_takeAway_37 : decode cX2_takeAway 37 = .ok (.lstore 4, 2) := by decide +kernel
theorem dX2_takeAway_39 : decode cX2_takeAway 39 = .ok (.aload_n 0, 1) := by decide +kernel
theorem dX2_takeAway_40 : decode cX2_takeAway 40 = .ok (.getfield 19, 3) := by decide +kernel
theorem dX2_takeAway_43 : decode cX2_takeAway 43 = .ok (.iload_n 1, 1) := by decide +kernel
theorem dX2_takeAway_44 : decode cX2_takeAway 44 = .ok (.iload 6, 2) := by decide +kernel
theorem dX2_takeAway_46 : decode cX2_takeAway 46 = .ok (.iadd, 1) := by decide +kernel
theorem dX2_takeAway_47 : decode cX2_takeAway 47 = .ok (.lload 4, 2) := by decide +kernel
theorem dX2_takeAway_49 : decode cX2_takeAway 49 = .ok (.ldc2_w 53, 3) := by decide +kernel
theorem dX2_takeAway_52 : decode cX2_takeAway 52 = .ok (.land, 1) := by decide +kernel
theorem dX2_takeAway_53 : decode cX2_takeAway 53 = .ok (.l2i, 1) := by decide +kernel
theorem dX2_takeAway_54 : decode cX2_takeAway 54 = .ok (.iastore, 1) := by decide +kernel
theorem dX2_takeAway_55 : decode cX2_takeAway 55 = .ok (.lload 4, 2) := by decide +kernel
theorem dX2_takeAway_57 : decode cX2_takeAway 57 = .ok (.bipush 16, 2) := by decide +kernel
theorem dX2_takeAway_59 : decode cX2_takeAway 59 = .ok (.lshr, 1) := by decide +kernel
theorem dX2_takeAway_60 : decode cX2_takeAway 60 = .ok (.lstore 4, 2) := by decide +kernel
theorem dX2_takeAway_62 : decode cX2_takeAway 62 = .ok (.iinc 6 1, 3) := by decide +kernel
theorem dX2_takeAway_65 : decode cX2_takeAway 65 = .ok (.goto (-59), 3) := by decide +kernel
theorem dX2_takeAway_68 : decode cX2_takeAway 68 = .ok (.aload_n 0, 1) := by decide +kernel
theorem dX2_takeAway_69 : decode cX2_takeAway 69 = .ok (.getfield 19, 3) := by decide +kernel
theorem dX2_takeAway_72 : decode cX2_takeAway 72 = .ok (.iload_n 1, 1) := by decide +kernel
theorem dX2_takeAway_73 : decode cX2_takeAway 73 = .ok (.bipush 32, 2) := by decide +kernel
theorem dX2_takeAway_75 : decode cX2_takeAway 75 = .ok (.iadd, 1) := by decide +kernel
theorem dX2_takeAway_76 : decode cX2_takeAway 76 = .ok (.iaload, 1) := by decide +kernel
theorem dX2_takeAway_77 : decode cX2_takeAway 77 = .ok (.i2l, 1) := by decide +kernel
theorem dX2_takeAway_78 : decode cX2_takeAway 78 = .ok (.lload 4, 2) := by decide +kernel
theorem dX2_takeAway_80 : decode cX2_takeAway 80 = .ok (.ladd, 1) := by decide +kernel
theorem dX2_takeAway_81 : decode cX2_takeAway 81 = .ok (.lstore 6, 2) := by decide +kernel
theorem dX2_takeAway_83 : decode cX2_takeAway 83 = .ok (.iconst 0, 1) := by decide +kernel
theorem dX2_takeAway_84 : decode cX2_takeAway 84 = .ok (.istore 8, 2) := by decide +kernel
theorem dX2_takeAway_86 : decode cX2_takeAway 86 = .ok (.iload 8, 2) := by decide +kernel
theorem dX2_takeAway_88 : decode cX2_takeAway 88 = .ok (.iconst 2, 1) := by decide +kernel
theorem dX2_takeAway_89 : decode cX2_takeAway 89 = .ok (.if_icmp .ge 26, 3) := by decide +kernel
theorem dX2_takeAway_92 : decode cX2_takeAway 92 = .ok (.lload 6, 2) := by decide +kernel
theorem dX2_takeAway_94 : decode cX2_takeAway 94 = .ok (.lconst 0, 1) := by decide +kernel
theorem dX2_takeAway_95 : decode cX2_takeAway 95 = .ok (.lcmp, 1) := by decide +kernel
theorem dX2_takeAway_96 : decode cX2_takeAway 96 = .ok (.ifCond .ge 19, 3) := by decide +kernel
theorem dX2_takeAway_99 : decode cX2_takeAway 99 = .ok (.lload 6, 2) := by decide +kernel
theorem dX2_takeAway_101 : decode cX2_takeAway 101 = .ok (.aload_n 0, 1) := by decide +kernel
theorem dX2_takeAway_102 : decode cX2_takeAway 102 = .ok (.iload_n 1, 1) := by decide +kernel
theorem dX2_takeAway_103 : decode cX2_takeAway 103 = .ok (.invokevirtual 70, 3) := by decide +kernel
theorem dX2_takeAway_106 : decode cX2_takeAway 106 = .ok (.ladd, 1) := by decide +kernel
theorem dX2_takeAway_107 : decode cX2_takeAway 107 = .ok (.lstore 6, 2) := by decide +kernel
theorem dX2_takeAway_109 : decode cX2_takeAway 109 = .ok (.iinc 8 1, 3) := by decide +kernel
theorem dX2_takeAway_112 : decode cX2_takeAway 112 = .ok (.goto (-26), 3) := by decide +kernel
theorem dX2_takeAway_115 : decode cX2_takeAway 115 = .ok (.aload_n 0, 1) := by decide +kernel
theorem dX2_takeAway_116 : decode cX2_takeAway 116 = .ok (.getfield 19, 3) := by decide +kernel
theorem dX2_takeAway_119 : decode cX2_takeAway 119 = .ok (.iload_n 1, 1) := by decide +kernel
theorem dX2_takeAway_120 : decode cX2_takeAway 120 = .ok (.bipush 32, 2) := by decide +kernel
theorem dX2_takeAway_122 : decode cX2_takeAway 122 = .ok (.iadd, 1) := by decide +kernel
theorem dX2_takeAway_123 : decode cX2_takeAway 123 = .ok (.lload 6, 2) := by decide +kernel
theorem dX2_takeAway_125 : decode cX2_takeAway 125 = .ok (.l2i, 1) := by decide +kernel
theorem dX2_takeAway_126 : decode cX2_takeAway 126 = .ok (.iastore, 1) := by decide +kernel
theorem dX2_takeAway_127 : decode cX2_takeAway 127 = .ok (.return_, 1) := by decide +kernel
theorem hyX2_takeAway : yX2_takeAway.cls ≠ "java/lang/invoke/MethodHandle" ∧ yX2_takeAway.cls ≠ "java/lang/invoke/VarHandle" ∧ (parseMethodDescriptor yX2_takeAway.desc).map (fun d => d.parameters.length) = some 2 := by decide +kernel
abbrev J_X2_takeAway_6 (E : gx_E) (v0 : Nat) (v1 : Int32) (v2 : Int64) (v4 : Int64) (v6 : Int32) (u : gx_S) : Prop := gx_Wc E 9 6 [(0, .ref (ex_ad E v0)), (1, .int v1), (2, .long v2), (4, .long v4), (6, .int v6)] [] u
abbrev J_X2_takeAway_86 (E : gx_E) (v0 : Nat) (v1 : Int32) (v2 : Int64) (v4 : Int64) (v6 : Int64) (v8 : Int32) (u : gx_S) : Prop := gx_Wc E 9 86 [(0, .ref (ex_ad E v0)), (1, .int v1), (2, .long v2), (4, .long v4), (6, .long v6), (8, .int v8)] [] u
set_option maxHeartbeats 4000000 in
set_option maxRecDepth 100000 in
theorem w_X2_takeAway_0 {E : gx_E} (X : gx_X E cX2_takeAway 9 RX2 none) (hd : 1 ≤ ex_d E) {post : gx_S → Prop} (hQ : ex_Q E = va_Qv post (gx_B (ex_Z E)) (gx_A (ex_Z E))) {u : gx_S} {v0 : Nat} {v1 : Int32} {v2 : Int64} (h : J_X2_takeAway_6 E v0 v1 v2 (0 : Int64) (0 : Int32) u) : gx_Wc E 9 0 [(0, .ref (ex_ad E v0)), (1, .int v1), (2, .long v2)] [] u := by
  refine gx_lconst X (v := 0) dX2_takeAway_0 (by decide) ?_
  refine gx_lstore X (lv' := [(4, .long (0 : Int64)), (0, .ref (ex_ad E v0)), (1, .int v1), (2, .long v2)]) dX2_takeAway_1 (by decide) rfl ?_
  refine gx_iconst X (v := 0) dX2_takeAway_3 (by decide) ?_
  refine gx_istore X (lv' := [(6, .int (0 : Int32)), (4, .long (0 : Int64)), (0, .ref (ex_ad E v0)), (1, .int v1), (2, .long v2)]) dX2_takeAway_4 (by decide) rfl ?_
  exact gx_sub [2, 3, 4, 1, 0] rfl h
set_option maxHeartbeats 4000000 in
set_option maxRecDepth 100000 in
theorem w_X2_takeAway_6 {E : gx_E} (X : gx_X E cX2_takeAway 9 RX2 none) (hd : 1 ≤ ex_d E) {post : gx_S → Prop} (hQ : ex_Q E = va_Qv post (gx_B (ex_Z E)) (gx_A (ex_Z E))) {u : gx_S} {v0 : Nat} {v1 : Int32} {v2 : Int64} {v4 : Int64} {v6 : Int32} (h : (((32 : Int32) ≤ v6 → (gx_isO v0 2 ∧ (gx_isR (gx_r u v0 3) .int ∧ vp_in (v1 + (32 : Int32)) (gx_len (gx_r u v0 3)) ∧ (∀ x4 : Int64, x4 = (((gx_a u (gx_r u v0 3) (v1 + (32 : Int32)).toNatClampNeg)).toInt64 + v4) → J_X2_takeAway_86 E v0 v1 v2 v4 x4 (0 : Int32) u)))) ∧ (¬ (32 : Int32) ≤ v6 → (gx_isO v0 2 ∧ (gx_isR (gx_r u v0 3) .int ∧ vp_in (v1 + v6) (gx_len (gx_r u v0 3)) ∧ (gx_isR (gx_r u v0 1) .int ∧ vp_in v6 (gx_len (gx_r u v0 1)) ∧ (∀ x10 : Int64, x10 = (v4 + (((gx_a u (gx_r u v0 3) (v1 + v6).toNatClampNeg)).toInt64 - (v2 * ((gx_a u (gx_r u v0 1) v6.toNatClampNeg)).toInt64))) → (gx_isA (gx_r u v0 3) .int ∧ vp_in (v1 + v6) (gx_len (gx_r u v0 3)) ∧ ∀ u13 : gx_S, u13 = gx_pa u (gx_r u v0 3) (upd (gx_a u (gx_r u v0 3)) (v1 + v6).toNatClampNeg ((x10 &&& (65535 : Int64))).toInt32) → (∀ x14 : Int64, x14 = (x10 >>> ((16 : Int32).toInt64 &&& 63)) → (∀ x15 : Int32, x15 = v6 + 1 → J_X2_takeAway_6 E v0 v1 v2 x14 x15 u13)))))))))) : gx_Wc E 9 6 [(0, .ref (ex_ad E v0)), (1, .int v1), (2, .long v2), (4, .long v4), (6, .int v6)] [] u := by
  refine gx_iload X (j := 4) dX2_takeAway_6 rfl ?_
  refine gx_bipush X (v := 32) dX2_takeAway_8 (by decide) ?_
  refine gx_icmp_ge X (tgt := 68) dX2_takeAway_10 (by decide) (fun c16 => ?_) (fun c16 => ?_)
  · replace h := h.1 c16
    refine gx_aload_n X (j := 0) dX2_takeAway_68 rfl rfl ?_
    obtain ⟨k1, h⟩ := h
    refine gx_get X k1 rfl iwX2 3 (by decide) mw_94 (v := .ref (ex_ad E (gx_r u v0 3))) rfl dX2_takeAway_69 ?_
    refine gx_iload_n X (j := 1) dX2_takeAway_72 rfl rfl ?_
    refine gx_bipush X (v := 32) dX2_takeAway_73 (by decide) ?_
    refine gx_iadd X dX2_takeAway_75 ?_
    obtain ⟨k2, h⟩ := h
    obtain ⟨k3, h⟩ := h
    refine gx_iald X k2 k3 dX2_takeAway_76 ?_
    refine gx_i2l X (v := ((gx_a u (gx_r u v0 3) (v1 + (32 : Int32)).toNatClampNeg)).toInt64) dX2_takeAway_77 rfl ?_
    refine gx_lload X (j := 3) dX2_takeAway_78 rfl ?_
    refine gx_ladd X dX2_takeAway_80 ?_
    refine gx_naml (fun x4 ex4 => ?_)
    replace h := h x4 ex4
    refine gx_lstore X (lv' := [(6, .long x4), (0, .ref (ex_ad E v0)), (1, .int v1), (2, .long v2), (4, .long v4)]) dX2_takeAway_81 (by decide) rfl ?_
    refine gx_iconst X (v := 0) dX2_takeAway_83 (by decide) ?_
    refine gx_istore X (lv' := [(8, .int (0 : Int32)), (6, .long x4), (0, .ref (ex_ad E v0)), (1, .int v1), (2, .long v2), (4, .long v4)]) dX2_takeAway_84 (by decide) rfl ?_
    exact gx_sub [2, 3, 4, 5, 1, 0] rfl h
  · replace h := h.2 c16
    refine gx_lload X (j := 3) dX2_takeAway_13 rfl ?_
    refine gx_aload_n X (j := 0) dX2_takeAway_15 rfl rfl ?_
    obtain ⟨k5, h⟩ := h
    refine gx_get X k5 rfl iwX2 3 (by decide) mw_94 (v := .ref (ex_ad E (gx_r u v0 3))) rfl dX2_takeAway_16 ?_
    refine gx_iload_n X (j := 1) dX2_takeAway_19 rfl rfl ?_
    refine gx_iload X (j := 4) dX2_takeAway_20 rfl ?_
    refine gx_iadd X dX2_takeAway_22 ?_
    obtain ⟨k6, h⟩ := h
    obtain ⟨k7, h⟩ := h
    refine gx_iald X k6 k7 dX2_takeAway_23 ?_
    refine gx_i2l X (v := ((gx_a u (gx_r u v0 3) (v1 + v6).toNatClampNeg)).toInt64) dX2_takeAway_24 rfl ?_
    refine gx_lload_n X (j := 2) dX2_takeAway_25 rfl rfl ?_
    refine gx_aload_n X (j := 0) dX2_takeAway_26 rfl rfl ?_
    refine gx_get X k5 rfl iwX2 1 (by decide) mw_92 (v := .ref (ex_ad E (gx_r u v0 1))) rfl dX2_takeAway_27 ?_
    refine gx_iload X (j := 4) dX2_takeAway_30 rfl ?_
    obtain ⟨k8, h⟩ := h
    obtain ⟨k9, h⟩ := h
    refine gx_iald X k8 k9 dX2_takeAway_32 ?_
    refine gx_i2l X (v := ((gx_a u (gx_r u v0 1) v6.toNatClampNeg)).toInt64) dX2_takeAway_33 rfl ?_
    refine gx_lmul X dX2_takeAway_34 ?_
    refine gx_lsub X dX2_takeAway_35 ?_
    refine gx_ladd X dX2_takeAway_36 ?_
    refine gx_naml (fun x10 ex10 => ?_)
    replace h := h x10 ex10
    refine gx_lstore X (lv' := [(4, .long x10), (0, .ref (ex_ad E v0)), (1, .int v1), (2, .long v2), (6, .int v6)]) dX2_takeAway_37 (by decide) rfl ?_
    refine gx_aload_n X (j := 1) dX2_takeAway_39 rfl rfl ?_
    refine gx_get X k5 rfl iwX2 3 (by decide) mw_94 (v := .ref (ex_ad E (gx_r u v0 3))) rfl dX2_takeAway_40 ?_
    refine gx_iload_n X (j := 2) dX2_takeAway_43 rfl rfl ?_
    refine gx_iload X (j := 4) dX2_takeAway_44 rfl ?_
    refine gx_iadd X dX2_takeAway_46 ?_
    refine gx_lload X (j := 0) dX2_takeAway_47 rfl ?_
    refine gx_ldc2 X (v := 65535) mw_400 dX2_takeAway_49 ?_
    refine gx_land X dX2_takeAway_52 ?_
    refine gx_l2i X (v := ((x10 &&& (65535 : Int64))).toInt32) dX2_takeAway_53 rfl ?_
    obtain ⟨k11, h⟩ := h
    obtain ⟨k12, h⟩ := h
    refine gx_iast X k11 k12 dX2_takeAway_54 ?_
    refine gx_nams (fun u13 eu13 => ?_)
    replace h := h u13 eu13
    refine gx_lload X (j := 0) dX2_takeAway_55 rfl ?_
    refine gx_bipush X (v := 16) dX2_takeAway_57 (by decide) ?_
    refine gx_lshr X (v := (x10 >>> ((16 : Int32).toInt64 &&& 63))) dX2_takeAway_59 rfl ?_
    refine gx_naml (fun x14 ex14 => ?_)
    replace h := h x14 ex14
    refine gx_lstore X (lv' := [(4, .long x14), (0, .ref (ex_ad E v0)), (1, .int v1), (2, .long v2), (6, .int v6)]) dX2_takeAway_60 (by decide) rfl ?_
    obtain ⟨x15, ex15⟩ : ∃ y : Int32, y = v6 + 1 := ⟨_, rfl⟩
    replace h := h x15 ex15
    refine gx_iinc X (v := x15) (lv' := [(6, .int x15), (4, .long x14), (0, .ref (ex_ad E v0)), (1, .int v1), (2, .long v2)]) dX2_takeAway_62 (j := 4) rfl (by rw [ex15]; rfl) (by decide) rfl ?_
    refine gx_goto X (tgt := 6) dX2_takeAway_65 (by decide) ?_
    exact gx_sub [2, 3, 4, 1, 0] rfl h
set_option maxHeartbeats 4000000 in
set_option maxRecDepth 100000 in
theorem w_X2_takeAway_86 {E : gx_E} (X : gx_X E cX2_takeAway 9 RX2 none) (hd : 1 ≤ ex_d E) {post : gx_S → Prop} (hQ : ex_Q E = va_Qv post (gx_B (ex_Z E)) (gx_A (ex_Z E))) {u : gx_S} {v0 : Nat} {v1 : Int32} {v2 : Int64} {v4 : Int64} {v6 : Int64} {v8 : Int32} (h : (((2 : Int32) ≤ v8 → (gx_isO v0 2 ∧ (gx_isA (gx_r u v0 3) .int ∧ vp_in (v1 + (32 : Int32)) (gx_len (gx_r u v0 3)) ∧ ∀ u4 : gx_S, u4 = gx_pa u (gx_r u v0 3) (upd (gx_a u (gx_r u v0 3)) (v1 + (32 : Int32)).toNatClampNeg (v6).toInt32) → post u4))) ∧ (¬ (2 : Int32) ≤ v8 → ((0 ≤ (lg_cmp v6 (0 : Int64)) → (gx_isO v0 2 ∧ (gx_isA (gx_r u v0 3) .int ∧ vp_in (v1 + (32 : Int32)) (gx_len (gx_r u v0 3)) ∧ ∀ u8 : gx_S, u8 = gx_pa u (gx_r u v0 3) (upd (gx_a u (gx_r u v0 3)) (v1 + (32 : Int32)).toNatClampNeg (v6).toInt32) → post u8))) ∧ (¬ 0 ≤ (lg_cmp v6 (0 : Int64)) → (gx_isO v0 2 ∧ S_X2_giveBack u v0 v1 (fun (r11 : Int64) (u10 : gx_S) => (∀ x12 : Int64, x12 = (v6 + r11) → (∀ x13 : Int32, x13 = v8 + 1 → J_X2_takeAway_86 E v0 v1 v2 v4 x12 x13 u10))))))))) : gx_Wc E 9 86 [(0, .ref (ex_ad E v0)), (1, .int v1), (2, .long v2), (4, .long v4), (6, .long v6), (8, .int v8)] [] u := by
  refine gx_iload X (j := 5) dX2_takeAway_86 rfl ?_
  refine gx_iconst X (v := 2) dX2_takeAway_88 (by decide) ?_
  refine gx_icmp_ge X (tgt := 115) dX2_takeAway_89 (by decide) (fun c15 => ?_) (fun c15 => ?_)
  · replace h := h.1 c15
    refine gx_aload_n X (j := 0) dX2_takeAway_115 rfl rfl ?_
    obtain ⟨k1, h⟩ := h
    refine gx_get X k1 rfl iwX2 3 (by decide) mw_94 (v := .ref (ex_ad E (gx_r u v0 3))) rfl dX2_takeAway_116 ?_
    refine gx_iload_n X (j := 1) dX2_takeAway_119 rfl rfl ?_
    refine gx_bipush X (v := 32) dX2_takeAway_120 (by decide) ?_
    refine gx_iadd X dX2_takeAway_122 ?_
    refine gx_lload X (j := 4) dX2_takeAway_123 rfl ?_
    refine gx_l2i X (v := (v6).toInt32) dX2_takeAway_125 rfl ?_
    obtain ⟨k2, h⟩ := h
    obtain ⟨k3, h⟩ := h
    refine gx_iast X k2 k3 dX2_takeAway_126 ?_
    refine gx_nams (fun u4 eu4 => ?_)
    replace h := h u4 eu4
    exact gx_vret X hQ h dX2_takeAway_127
  · replace h := h.2 c15
    refine gx_lload X (j := 4) dX2_takeAway_92 rfl ?_
    refine gx_lconst X (v := 0) dX2_takeAway_94 (by decide) ?_
    refine gx_lcmp X dX2_takeAway_95 ?_
    refine gx_if_ge X (tgt := 115) dX2_takeAway_96 (by decide) (fun c14 => ?_) (fun c14 => ?_)
    · replace h := h.1 c14
      refine gx_aload_n X (j := 0) dX2_takeAway_115 rfl rfl ?_
      obtain ⟨k5, h⟩ := h
      refine gx_get X k5 rfl iwX2 3 (by decide) mw_94 (v := .ref (ex_ad E (gx_r u v0 3))) rfl dX2_takeAway_116 ?_
      refine gx_iload_n X (j := 1) dX2_takeAway_119 rfl rfl ?_
      refine gx_bipush X (v := 32) dX2_takeAway_120 (by decide) ?_
      refine gx_iadd X dX2_takeAway_122 ?_
      refine gx_lload X (j := 4) dX2_takeAway_123 rfl ?_
      refine gx_l2i X (v := (v6).toInt32) dX2_takeAway_125 rfl ?_
      obtain ⟨k6, h⟩ := h
      obtain ⟨k7, h⟩ := h
      refine gx_iast X k6 k7 dX2_takeAway_126 ?_
      refine gx_nams (fun u8 eu8 => ?_)
      replace h := h u8 eu8
      exact gx_vret X hQ h dX2_takeAway_127
    · replace h := h.2 c14
      refine gx_lload X (j := 4) dX2_takeAway_99 rfl ?_
      refine gx_aload_n X (j := 0) dX2_takeAway_101 rfl rfl ?_
      refine gx_iload_n X (j := 1) dX2_takeAway_102 rfl rfl ?_
      obtain ⟨k9, h⟩ := h
      refine gx_kl (gx_rV X (c_X2_giveBack h) (Nat.le_trans (by decide) hd) (Nat.le_trans (by decide) (Nat.mul_le_mul_left 40 hd)) k9 rfl mw_408 mw_410 mp_9 mw_6 mw_411 hyX2_giveBack (As := [.int v1]) (rest := [.long v6]) rfl rfl (Nat.le_of_ble_eq_true rfl) dX2_takeAway_103) (fun r11 u10 h => ?_)
      refine gx_ladd X dX2_takeAway_106 ?_
      refine gx_naml (fun x12 ex12 => ?_)
      replace h := h x12 ex12
      refine gx_lstore X (lv' := [(6, .long x12), (0, .ref (ex_ad E v0)), (1, .int v1), (2, .long v2), (4, .long v4), (8, .int v8)]) dX2_takeAway_107 (by decide) rfl ?_
      obtain ⟨x13, ex13⟩ : ∃ y : Int32, y = v8 + 1 := ⟨_, rfl⟩
      replace h := h x13 ex13
      refine gx_iinc X (v := x13) (lv' := [(8, .int x13), (6, .long x12), (0, .ref (ex_ad E v0)), (1, .int v1), (2, .long v2), (4, .long v4)]) dX2_takeAway_109 (j := 5) rfl (by rw [ex13]; rfl) (by decide) rfl ?_
      refine gx_goto X (tgt := 86) dX2_takeAway_112 (by decide) ?_
      exact gx_sub [2, 3, 4, 5, 1, 0] rfl h
def S_X2_takeAway (u : gx_S) (v0 : Nat) (v1 : Int32) (v2 : Int64) (post : gx_S → Prop) : Prop := v0 = 8 ∧ cfix u ∧ ∃ p q : Nat, p ≤ 31 ∧ v1 = nI p ∧ v2 = lz q ∧ q < 65536 ∧ okD (gx_a u 20) 64 ∧ okD (gx_a u 18) 32 ∧ 0 < vA (gx_a u 18) 32 ∧ vA (sl (gx_a u 20) p) 33 / vA (gx_a u 18) 32 ≤ q ∧ q ≤ vA (sl (gx_a u 20) p) 33 / vA (gx_a u 18) 32 + 2 ∧ ∀ u', exA [20] u u' → okD (gx_a u' 20) 64 → (∀ j, (j < p ∨ p + 32 < j) → gx_a u' 20 j = gx_a u 20 j) → gx_a u' 20 (p + 32) = 0 → vA (sl (gx_a u' 20) p) 32 = vA (sl (gx_a u 20) p) 33 % vA (gx_a u 18) 32 → post u'
theorem lcmp0 (t : Int) (h1 : -4611686018427387904 ≤ t) (h2 : t < 4611686018427387904) : 0 ≤ lg_cmp (lz t) (0 : Int64) ↔ 0 ≤ t := by
  rw [lg_cmp_ge, Int64.le_iff_toInt_le, lz_toInt h1 h2]
  rfl
theorem ta_lt {V r G b s Mv BB : Nat} (h : V + (s + 1) * Mv + G * BB = r + b * BB) (hr : r < Mv) : G < b := by
  have h1 : Mv ≤ (s + 1) * Mv := Nat.le_mul_of_pos_left Mv (by omega)
  have h2 : G * BB < b * BB := by omega
  exact Nat.lt_of_mul_lt_mul_right h2
theorem ta_eq {V r G b BB : Nat} (h : V + G * BB = r + b * BB) (hV : V < BB) (hr : r < BB) : G = b ∧ V = r := by
  have e1 : (V + G * BB) / BB = G := by rw [Nat.add_mul_div_right _ _ (by omega), Nat.div_eq_of_lt hV, Nat.zero_add]
  have e2 : (r + b * BB) / BB = b := by rw [Nat.add_mul_div_right _ _ (by omega), Nat.div_eq_of_lt hr, Nat.zero_add]
  have e : G = b := by rw [← e1, h, e2]
  subst e
  exact ⟨rfl, by omega⟩
theorem lp2_X2_takeAway {E : gx_E} (X : gx_X E cX2_takeAway 9 RX2 none) (hd : 1 ≤ ex_d E) {post : gx_S → Prop} (hQ : ex_Q E = va_Qv post (gx_B (ex_Z E)) (gx_A (ex_Z E))) {p r b : Nat} {v2 v4 : Int64} {u0 : gx_S} (hp : p ≤ 31) (hf0 : cfix u0) (hM : okD (gx_a u0 18) 32) (hr : r < vA (gx_a u0 18) 32) (hb : b ≤ 65536)
    (hh : ∀ u', exA [20] u0 u' → okD (gx_a u' 20) 64 → (∀ j, (j < p ∨ p + 32 < j) → gx_a u' 20 j = gx_a u0 20 j) → gx_a u' 20 (p + 32) = 0 → vA (sl (gx_a u' 20) p) 32 = r → post u') :
    ∀ (s e G : Nat) (u : gx_S), e + s ≤ 2 → G ≤ 70000 + e → exA [20] u0 u → okD (gx_a u 20) 64 → (∀ j, (j < p ∨ p + 32 < j) → gx_a u 20 j = gx_a u0 20 j) → vA (sl (gx_a u 20) p) 32 + s * vA (gx_a u0 18) 32 + G * 65536 ^ 32 = r + b * 65536 ^ 32 → J_X2_takeAway_86 E 8 (nI p) v2 v4 (lz ((G : Int) - (b : Int))) (nI e) u := by
  have hMl := vA_lt 32 hM
  intro s
  induction s with
  | zero =>
    intro e G u he hG hx hP ho hv
    rw [Nat.zero_mul, Nat.add_zero] at hv
    obtain ⟨rfl, hvr⟩ := ta_eq hv (vA_lt 32 (okD_sl hP (by omega))) (by omega)
    have e3 : gx_r u 8 3 = 20 := (exA_r hx 8 3).trans (hf0 8 3 (by decide))
    have fin : gx_isO 8 2 ∧ (gx_isA (gx_r u 8 3) .int ∧ vp_in (nI p + (32 : Int32)) (gx_len (gx_r u 8 3)) ∧ ∀ u4 : gx_S, u4 = gx_pa u (gx_r u 8 3) (upd (gx_a u (gx_r u 8 3)) (nI p + (32 : Int32)).toNatClampNeg (lz ((G : Int) - (G : Int))).toInt32) → post u4) := by
      rw [e3, show (32 : Int32) = nI 32 from rfl, nI_add, nI_clamp (by omega), Int.sub_self, show lz 0 = lz ((0 : Nat) : Int) from rfl, lz_i]
      refine ⟨isO_x 8 2 (by decide), isA20, in20 (by omega), ?_⟩
      rintro u4 rfl
      refine hh _ (exA_tr hx (exA_pa _ _ (by simp))) ?_ (fun j hj => ?_) ?_ ?_
      · rw [gx_a_pa, if_pos rfl]; exact okD_upd hP (by omega)
      · rw [gx_a_pa, if_pos rfl, pk_un (by omega)]; exact ho j hj
      · rw [gx_a_pa, if_pos rfl, pk_us]; rfl
      · rw [gx_a_pa, if_pos rfl, sl_upd, vA_ge 32 (Nat.le_refl _)]; exact hvr
    refine w_X2_takeAway_86 X hd hQ ⟨fun _ => fin, fun _ => ⟨fun _ => fin, fun q => absurd ((lcmp0 _ (by omega) (by omega)).mpr (by omega)) q⟩⟩
  | succ s ih =>
    intro e G u he hG hx hP ho hv
    have hlt := ta_lt hv hr
    have e1 : gx_a u 18 = gx_a u0 18 := hx.2.2.2 18 (by decide)
    refine w_X2_takeAway_86 X hd hQ ⟨fun q => absurd q (nI_ge (b := 2) (by omega) (by omega)), fun _ => ⟨fun q => absurd ((lcmp0 _ (by omega) (by omega)).mp q) (by omega), fun _ => ⟨isO_x 8 2 (by decide), rfl, exA_cfix hx hf0, p, hp, rfl, hP, by rw [e1]; exact hM, ?_⟩⟩⟩
    intro u' c hx' hc hP' ho' hv'
    intro x12 e12 x13 e13
    subst e13
    rw [nI_1]
    rw [lz_add, show ((G : Int) - (b : Int) + (c : Int)) = (((G + c : Nat) : Int) - (b : Int)) by push_cast; omega] at e12
    subst e12
    rw [e1] at hv'
    refine ih (e + 1) (G + c) u' (by omega) (by omega) (exA_tr hx hx') hP' (fun j hj => ?_) ?_
    · rw [ho' j (by omega)]; exact ho j hj
    · rw [Nat.add_mul] at hv ⊢
      rw [Nat.one_mul] at hv
      omega
theorem lp1_X2_takeAway {E : gx_E} (X : gx_X E cX2_takeAway 9 RX2 none) (hd : 1 ≤ ex_d E) {post : gx_S → Prop} (hQ : ex_Q E = va_Qv post (gx_B (ex_Z E)) (gx_A (ex_Z E))) {p q : Nat} {u0 : gx_S} (hp : p ≤ 31) (hq : q < 65536) (hf0 : cfix u0) (hM : okD (gx_a u0 18) 32)
    (next : ∀ (u : gx_S) (b : Nat), b ≤ 65536 → exA [20] u0 u → okD (gx_a u 20) 64 → (∀ j, (j < p ∨ p + 32 ≤ j) → gx_a u 20 j = gx_a u0 20 j) → vA (sl (gx_a u 20) p) 32 + q * vA (gx_a u0 18) 32 = vA (sl (gx_a u0 20) p) 32 + b * 65536 ^ 32 → J_X2_takeAway_86 E 8 (nI p) (lz q) (lz (-(b : Int))) (lz ((dv (gx_a u0 20 (p + 32)) : Int) - (b : Int))) (0 : Int32) u) :
    ∀ (n i b : Nat) (u : gx_S), 32 - i = n → i ≤ 32 → b ≤ 65536 → exA [20] u0 u → okD (gx_a u 20) 64 → (∀ j, (j < p ∨ p + 32 ≤ j) → gx_a u 20 j = gx_a u0 20 j) → vA (sl (gx_a u 20) p) 32 + q * vA (gx_a u0 18) i = vA (sl (gx_a u0 20) p) 32 + b * 65536 ^ i → J_X2_takeAway_6 E 8 (nI p) (lz q) (lz (-(b : Int))) (nI i) u := by
  intro n
  induction n with
  | zero =>
    intro i b u hn hi hb hx hP ho he
    have ei : i = 32 := by omega
    subst ei
    have e3 : gx_r u 8 3 = 20 := (exA_r hx 8 3).trans (hf0 8 3 (by decide))
    refine w_X2_takeAway_6 X hd hQ ⟨fun _ => ?_, fun z => absurd (nI_le (a := 32) (by omega) (by omega)) z⟩
    rw [e3, show (32 : Int32) = nI 32 from rfl, nI_add, nI_clamp (by omega)]
    refine ⟨isO_x 8 2 (by decide), isA20.r, in20 (by omega), ?_⟩
    intro x4 e4
    rw [lz_dv (hP (p + 32) (by omega)), lz_add, ho (p + 32) (by omega), show ((dv (gx_a u0 20 (p + 32)) : Int) + -(b : Int)) = (dv (gx_a u0 20 (p + 32)) : Int) - (b : Int) by omega] at e4
    subst e4
    exact next u b hb hx hP ho he
  | succ n ih =>
    intro i b u hn hi hb hx hP ho he
    have e3 : gx_r u 8 3 = 20 := (exA_r hx 8 3).trans (hf0 8 3 (by decide))
    have e1 : gx_r u 8 1 = 18 := (exA_r hx 8 1).trans (hf0 8 1 (by decide))
    have bP := hP (p + i) (by omega)
    have bM := hM i (by omega)
    have bQ : q * dv (gx_a u0 18 i) ≤ 65535 * 65535 := Nat.mul_le_mul (by omega) (by omega)
    refine w_X2_takeAway_6 X hd hQ ⟨fun z => absurd z (nI_ge (b := 32) (by omega) (by omega)), fun _ => ?_⟩
    rw [e3, e1, nI_add, nI_clamp (by omega), nI_clamp (by omega), hx.2.2.2 18 (by decide)]
    refine ⟨isO_x 8 2 (by decide), isA20.r, in20 (by omega), isA18.r, in32 rfl (by omega), ?_⟩
    intro x10 e10
    rw [lz_dv bP, lz_dv bM, lz_mul, lz_sub, lz_add, show (-(b : Int) + ((dv (gx_a u 20 (p + i)) : Int) - (q : Int) * (dv (gx_a u0 18 i) : Int))) = (dv (gx_a u 20 (p + i)) : Int) - ((b + q * dv (gx_a u0 18 i) : Nat) : Int) by push_cast; omega] at e10
    generalize hy : b + q * dv (gx_a u0 18 i) = y at e10
    generalize hPi : dv (gx_a u 20 (p + i)) = P at e10 bP
    subst e10
    refine ⟨isA20, in20 (by omega), ?_⟩
    rintro u13 rfl x14 e14 x15 rfl
    rw [nI_1]
    obtain ⟨r, hr⟩ : ∃ r : Nat, r = (((P : Int) - (y : Int)) % 65536).toNat := ⟨_, rfl⟩
    obtain ⟨b', hb'⟩ : ∃ b' : Nat, b' = (-(((P : Int) - (y : Int)) / 65536)).toNat := ⟨_, rfl⟩
    have key : P + b' * 65536 = y + r := by omega
    have hr2 : r < 65536 := by omega
    have hb2 : b' ≤ 65536 := by omega
    rw [lz_shr (by omega) (by omega), show ((P : Int) - (y : Int)) / 65536 = -(b' : Int) by omega] at e14
    subst e14
    rw [lz_and, ← hr]
    refine ih (i + 1) b' _ (by omega) (by omega) hb2 (exA_tr hx (exA_pa _ _ (by simp))) ?_ (fun j hj => ?_) ?_
    · rw [gx_a_pa, if_pos rfl]; exact okD_upd hP hr2
    · rw [gx_a_pa, if_pos rfl, pk_un (by omega)]; exact ho j hj
    · rw [gx_a_pa, if_pos rfl, sl_upd]
      have hu := vA_upd (a := sl (gx_a u 20) p) (k := i) (x := nI r) 32 (by omega)
      rw [dv_nI (by omega), show sl (gx_a u 20) p i = gx_a u 20 (p + i) from rfl, hPi] at hu
      have k2 : P * 65536 ^ i + b' * (65536 * 65536 ^ i) = b * 65536 ^ i + q * (dv (gx_a u0 18 i) * 65536 ^ i) + r * 65536 ^ i := by
        rw [← Nat.mul_assoc, ← Nat.mul_assoc, ← Nat.add_mul, ← Nat.add_mul, ← Nat.add_mul, key, hy]
      rw [pow_s, vA_s (gx_a u0 18) i, Nat.mul_add]
      omega
theorem w_X2_takeAway {E : gx_E} (X : gx_X E cX2_takeAway 9 RX2 none) (hd : 1 ≤ ex_d E) {post : gx_S → Prop} (hQ : ex_Q E = va_Qv post (gx_B (ex_Z E)) (gx_A (ex_Z E))) {u : gx_S} {v0 : Nat} {v1 : Int32} {v2 : Int64} (h : S_X2_takeAway u v0 v1 v2 post) : gx_Wc E 9 0 [(0, .ref (ex_ad E v0)), (1, .int v1), (2, .long v2)] [] u := by
  obtain ⟨rfl, hf, p, q, hp, rfl, rfl, hq, hP, hM, hpos, hlo, hhi, hh⟩ := h
  refine w_X2_takeAway_0 X hd hQ ?_
  refine lp1_X2_takeAway X hd hQ hp hq hf hM (fun v b hb hx hPv ho hv => ?_) 32 0 0 u (by omega) (by omega) (by omega) (exA_rf _ _) hP (fun _ _ => rfl) (by rw [vA_0, Nat.mul_zero, Nat.zero_mul])
  have bt := hP (p + 32) (by omega)
  refine lp2_X2_takeAway X hd hQ (r := vA (sl (gx_a u 20) p) 33 % vA (gx_a u 18) 32) hp hf hM (Nat.mod_lt _ hpos) hb hh (q - vA (sl (gx_a u 20) p) 33 / vA (gx_a u 18) 32) 0 (dv (gx_a u 20 (p + 32))) v (by omega) (by omega) hx hPv (fun j hj => ho j (by omega)) ?_
  have hU : vA (sl (gx_a u 20) p) 33 = vA (sl (gx_a u 20) p) 32 + dv (gx_a u 20 (p + 32)) * 65536 ^ 32 := vA_s _ 32
  have hdm := Nat.div_add_mod (vA (sl (gx_a u 20) p) 33) (vA (gx_a u 18) 32)
  generalize vA (sl (gx_a u 20) p) 33 / vA (gx_a u 18) 32 = d at hlo hhi hdm ⊢
  generalize vA (sl (gx_a u 20) p) 33 % vA (gx_a u 18) 32 = r at hdm ⊢
  rw [Nat.mul_comm] at hdm
  have e : q * vA (gx_a u 18) 32 = d * vA (gx_a u 18) 32 + (q - d) * vA (gx_a u 18) 32 := by rw [← Nat.add_mul]; congr 1; omega
  omega
theorem c_X2_takeAway {l : Launch} {Z : gx_Z} {u : gx_S} {v0 : Nat} {v1 : Int32} {v2 : Int64} {post : gx_S → Prop} (h : S_X2_takeAway u v0 v1 v2 post) : Met l yX2_takeAway (Cond.code yX2_takeAway cX2_takeAway 9 none :: gx_TB) (gx_rm 1) (gx_Pre Z u [.ref (Z.2.1 v0), .int v1, .long v2]) (va_Qv post (gx_B Z) (gx_A Z)) 0 0 (gx_A Z) := by
  refine gx_met (by decide +kernel) (Nat.le_of_ble_eq_true rfl) ?_
  intro E X hZ hQ hD hL
  subst hZ
  exact w_X2_takeAway X (Nat.le_of_eq hD.symm) hQ h
-- PlainSeal$Modular.divideProduct()V
theorem dX2_divideProduct_0 : decode cX2_divideProduct 0 = .ok (.bipush 31, 2) := by decide +kernel
theorem dX2_divideProduct_2 : decode cX2_divideProduct 2 = .ok (.istore_n 1, 1) := by decide +kernel
theorem dX2_divideProduct_3 : decode cX2_divideProduct 3 = .ok (.iload_n 1, 1) := by decide +kernel
theorem dX2_divideProduct_4 : decode cX2_divideProduct 4 = .ok (.ifCond .lt 19, 3) := by decide +kernel
theorem dX2_divideProduct_7 : decode cX2_divideProduct 7 = .ok (.aload_n 0, 1) := by decide +kernel
theorem dX2_divideProduct_8 : decode cX2_divideProduct 8 = .ok (.iload_n 1, 1) := by decide +kernel
theorem dX2_divideProduct_9 : decode cX2_divideProduct 9 = .ok (.aload_n 0, 1) := by decide +kernel
theorem dX2_divideProduct_10 : decode cX2_divideProduct 10 = .ok (.iload_n 1, 1) := by decide +kernel
theorem dX2_divideProduct_11 : decode cX2_divideProduct 11 = .ok (.invokevirtual 55, 3) := by decide +kernel
theorem dX2_divideProduct_14 : decode cX2_divideProduct 14 = .ok (.invokevirtual 59, 3) := by decide +kernel
theorem dX2_divideProduct_17 : decode cX2_divideProduct 17 = .ok (.iinc 1 (-1), 3) := by decide +kernel
theorem dX2_divideProduct_20 : decode cX2_divideProduct 20 = .ok (.goto (-17), 3) := by decide +kernel
theorem dX2_divideProduct_23 : decode cX2_divideProduct 23 = .ok (.iconst 0, 1) := by decide +kernel
theorem dX2_divideProduct_24 : decode cX2_divideProduct 24 = .ok (.istore_n 1, 1) := by decide +kernel
theorem dX2_divideProduct_25 : decode cX2_divideProduct 25 = .ok (.iload_n 1, 1) := by decide +kernel
theorem dX2_divideProduct_26 : decode cX2_divideProduct 26 = .ok (.bipush 32, 2) := by decide +kernel
theorem dX2_divideProduct_28 : decode cX2_divideProduct 28 = .ok (.if_icmp .ge 21, 3) := by decide +kernel
theorem dX2_divideProduct_31 : decode cX2_divideProduct 31 = .ok (.aload_n 0, 1) := by decide +kernel
theorem dX2_divideProduct_32 : decode cX2_divideProduct 32 = .ok (.getfield 16, 3) := by decide +kernel
theorem dX2_divideProduct_35 : decode cX2_divideProduct 35 = .ok (.iload_n 1, 1) := by decide +kernel
theorem dX2_divideProduct_36 : decode cX2_divideProduct 36 = .ok (.aload_n 0, 1) := by decide +kernel
theorem dX2_divideProduct_37 : decode cX2_divideProduct 37 = .ok (.getfield 19, 3) := by decide +kernel
theorem dX2_divideProduct_40 : decode cX2_divideProduct 40 = .ok (.iload_n 1, 1) := by decide +kernel
theorem dX2_divideProduct_41 : decode cX2_divideProduct 41 = .ok (.iaload, 1) := by decide +kernel
theorem dX2_divideProduct_42 : decode cX2_divideProduct 42 = .ok (.iastore, 1) := by decide +kernel
theorem dX2_divideProduct_43 : decode cX2_divideProduct 43 = .ok (.iinc 1 1, 3) := by decide +kernel
theorem dX2_divideProduct_46 : decode cX2_divideProduct 46 = .ok (.goto (-21), 3) := by decide +kernel
theorem dX2_divideProduct_49 : decode cX2_divideProduct 49 = .ok (.return_, 1) := by decide +kernel
theorem hyX2_divideProduct : yX2_divideProduct.cls ≠ "java/lang/invoke/MethodHandle" ∧ yX2_divideProduct.cls ≠ "java/lang/invoke/VarHandle" ∧ (parseMethodDescriptor yX2_divideProduct.desc).map (fun d => d.parameters.length) = some 0 := by decide +kernel
abbrev J_X2_divideProduct_3 (E : gx_E) (v0 : Nat) (v1 : Int32) (u : gx_S) : Prop := gx_Wc E 2 3 [(0, .ref (ex_ad E v0)), (1, .int v1)] [] u
abbrev J_X2_divideProduct_25 (E : gx_E) (v0 : Nat) (v1 : Int32) (u : gx_S) : Prop := gx_Wc E 2 25 [(0, .ref (ex_ad E v0)), (1, .int v1)] [] u
set_option maxHeartbeats 4000000 in
set_option maxRecDepth 100000 in
theorem w_X2_divideProduct_0 {E : gx_E} (X : gx_X E cX2_divideProduct 2 RX2 none) (hd : 2 ≤ ex_d E) {post : gx_S → Prop} (hQ : ex_Q E = va_Qv post (gx_B (ex_Z E)) (gx_A (ex_Z E))) {u : gx_S} {v0 : Nat} (h : J_X2_divideProduct_3 E v0 (31 : Int32) u) : gx_Wc E 2 0 [(0, .ref (ex_ad E v0))] [] u := by
  refine gx_bipush X (v := 31) dX2_divideProduct_0 (by decide) ?_
  refine gx_istore_n X (lv' := [(1, .int (31 : Int32)), (0, .ref (ex_ad E v0))]) dX2_divideProduct_2 rfl (by decide) rfl ?_
  exact gx_sub [1, 0] rfl h
set_option maxHeartbeats 4000000 in
set_option maxRecDepth 100000 in
theorem w_X2_divideProduct_3 {E : gx_E} (X : gx_X E cX2_divideProduct 2 RX2 none) (hd : 2 ≤ ex_d E) {post : gx_S → Prop} (hQ : ex_Q E = va_Qv post (gx_B (ex_Z E)) (gx_A (ex_Z E))) {u : gx_S} {v0 : Nat} {v1 : Int32} (h : ((v1 < 0 → J_X2_divideProduct_25 E v0 (0 : Int32) u) ∧ (¬ v1 < 0 → (gx_isO v0 2 ∧ S_X2_guessedDigit u v0 v1 (fun (r3 : Int64) (u2 : gx_S) => (S_X2_takeAway u2 v0 v1 r3 (fun (u4 : gx_S) => (∀ x5 : Int32, x5 = v1 + (-1) → J_X2_divideProduct_3 E v0 x5 u4)))))))) : gx_Wc E 2 3 [(0, .ref (ex_ad E v0)), (1, .int v1)] [] u := by
  refine gx_iload_n X (j := 1) dX2_divideProduct_3 rfl rfl ?_
  refine gx_if_lt X (tgt := 23) dX2_divideProduct_4 (by decide) (fun c6 => ?_) (fun c6 => ?_)
  · replace h := h.1 c6
    refine gx_iconst X (v := 0) dX2_divideProduct_23 (by decide) ?_
    refine gx_istore_n X (lv' := [(1, .int (0 : Int32)), (0, .ref (ex_ad E v0))]) dX2_divideProduct_24 rfl (by decide) rfl ?_
    exact gx_sub [1, 0] rfl h
  · replace h := h.2 c6
    refine gx_aload_n X (j := 0) dX2_divideProduct_7 rfl rfl ?_
    refine gx_iload_n X (j := 1) dX2_divideProduct_8 rfl rfl ?_
    refine gx_aload_n X (j := 0) dX2_divideProduct_9 rfl rfl ?_
    refine gx_iload_n X (j := 1) dX2_divideProduct_10 rfl rfl ?_
    obtain ⟨k1, h⟩ := h
    refine gx_kl (gx_rV X (c_X2_guessedDigit h) (Nat.le_trans (by decide) hd) (Nat.le_trans (by decide) (Nat.mul_le_mul_left 40 hd)) k1 rfl mw_395 mw_397 mp_7 mw_6 mw_398 hyX2_guessedDigit (As := [.int v1]) (rest := [.int v1, .ref (ex_ad E v0)]) rfl rfl (Nat.le_of_ble_eq_true rfl) dX2_divideProduct_11) (fun r3 u2 h => ?_)
    refine gx_kv (gx_rV X (c_X2_takeAway h) (Nat.le_trans (by decide) hd) (Nat.le_trans (by decide) (Nat.mul_le_mul_left 40 hd)) k1 rfl mw_404 mw_406 mp_8 mw_6 mw_407 hyX2_takeAway (As := [.int v1, .long r3]) (rest := []) rfl rfl (Nat.le_of_ble_eq_true rfl) dX2_divideProduct_14) (fun u4 h => ?_)
    obtain ⟨x5, ex5⟩ : ∃ y : Int32, y = v1 + (-1) := ⟨_, rfl⟩
    replace h := h x5 ex5
    refine gx_iinc X (v := x5) (lv' := [(1, .int x5), (0, .ref (ex_ad E v0))]) dX2_divideProduct_17 (j := 1) rfl (by rw [ex5]; rfl) (by decide) rfl ?_
    refine gx_goto X (tgt := 3) dX2_divideProduct_20 (by decide) ?_
    exact gx_sub [1, 0] rfl h
set_option maxHeartbeats 4000000 in
set_option maxRecDepth 100000 in
theorem w_X2_divideProduct_25 {E : gx_E} (X : gx_X E cX2_divideProduct 2 RX2 none) (hd : 2 ≤ ex_d E) {post : gx_S → Prop} (hQ : ex_Q E = va_Qv post (gx_B (ex_Z E)) (gx_A (ex_Z E))) {u : gx_S} {v0 : Nat} {v1 : Int32} (h : (((32 : Int32) ≤ v1 → post u) ∧ (¬ (32 : Int32) ≤ v1 → (gx_isO v0 2 ∧ (gx_isR (gx_r u v0 3) .int ∧ vp_in v1 (gx_len (gx_r u v0 3)) ∧ (gx_isA (gx_r u v0 2) .int ∧ vp_in v1 (gx_len (gx_r u v0 2)) ∧ ∀ u6 : gx_S, u6 = gx_pa u (gx_r u v0 2) (upd (gx_a u (gx_r u v0 2)) v1.toNatClampNeg (gx_a u (gx_r u v0 3) v1.toNatClampNeg)) → (∀ x7 : Int32, x7 = v1 + 1 → J_X2_divideProduct_25 E v0 x7 u6))))))) : gx_Wc E 2 25 [(0, .ref (ex_ad E v0)), (1, .int v1)] [] u := by
  refine gx_iload_n X (j := 1) dX2_divideProduct_25 rfl rfl ?_
  refine gx_bipush X (v := 32) dX2_divideProduct_26 (by decide) ?_
  refine gx_icmp_ge X (tgt := 49) dX2_divideProduct_28 (by decide) (fun c8 => ?_) (fun c8 => ?_)
  · replace h := h.1 c8
    exact gx_vret X hQ h dX2_divideProduct_49
  · replace h := h.2 c8
    refine gx_aload_n X (j := 0) dX2_divideProduct_31 rfl rfl ?_
    obtain ⟨k1, h⟩ := h
    refine gx_get X k1 rfl iwX2 2 (by decide) mw_93 (v := .ref (ex_ad E (gx_r u v0 2))) rfl dX2_divideProduct_32 ?_
    refine gx_iload_n X (j := 1) dX2_divideProduct_35 rfl rfl ?_
    refine gx_aload_n X (j := 0) dX2_divideProduct_36 rfl rfl ?_
    refine gx_get X k1 rfl iwX2 3 (by decide) mw_94 (v := .ref (ex_ad E (gx_r u v0 3))) rfl dX2_divideProduct_37 ?_
    refine gx_iload_n X (j := 1) dX2_divideProduct_40 rfl rfl ?_
    obtain ⟨k2, h⟩ := h
    obtain ⟨k3, h⟩ := h
    refine gx_iald X k2 k3 dX2_divideProduct_41 ?_
    obtain ⟨k4, h⟩ := h
    obtain ⟨k5, h⟩ := h
    refine gx_iast X k4 k5 dX2_divideProduct_42 ?_
    refine gx_nams (fun u6 eu6 => ?_)
    replace h := h u6 eu6
    obtain ⟨x7, ex7⟩ : ∃ y : Int32, y = v1 + 1 := ⟨_, rfl⟩
    replace h := h x7 ex7
    refine gx_iinc X (v := x7) (lv' := [(1, .int x7), (0, .ref (ex_ad E v0))]) dX2_divideProduct_43 (j := 1) rfl (by rw [ex7]; rfl) (by decide) rfl ?_
    refine gx_goto X (tgt := 25) dX2_divideProduct_46 (by decide) ?_
    exact gx_sub [1, 0] rfl h
def S_X2_divideProduct (u : gx_S) (v0 : Nat) (post : gx_S → Prop) : Prop := v0 = 8 ∧ cfix u ∧ okD (gx_a u 20) 64 ∧ okD (gx_a u 18) 32 ∧ 32768 ≤ dv (gx_a u 18 31) ∧ vA (sl (gx_a u 20) 32) 32 < vA (gx_a u 18) 32 ∧ ∀ u', exA [19, 20] u u' → okD (gx_a u' 19) 32 → vA (gx_a u' 19) 32 = vA (gx_a u 20) 64 % vA (gx_a u 18) 32 → post u'
theorem M_pos {a : Nat → Int32} (hm : 32768 ≤ dv (a 31)) : 0 < vA a 32 := by
  rw [vA_s a 31]
  have h1 : 32768 * 65536 ^ 31 ≤ dv (a 31) * 65536 ^ 31 := Nat.mul_le_mul_right _ hm
  have h2 : 0 < 65536 ^ 31 := Nat.pow_pos (by omega)
  omega
theorem lp2_X2_divideProduct {E : gx_E} (X : gx_X E cX2_divideProduct 2 RX2 none) (hd : 2 ≤ ex_d E) {post : gx_S → Prop} (hQ : ex_Q E = va_Qv post (gx_B (ex_Z E)) (gx_A (ex_Z E))) {u0 : gx_S} {V : Nat} (hf0 : cfix u0) (hh : ∀ u', exA [19, 20] u0 u' → okD (gx_a u' 19) 32 → vA (gx_a u' 19) 32 = V → post u') :
    ∀ (n i : Nat) (u : gx_S), 32 - i = n → i ≤ 32 → exA [19, 20] u0 u → okD (gx_a u 20) 64 → vA (gx_a u 20) 32 = V → (∀ j, j < i → gx_a u 19 j = gx_a u 20 j) → J_X2_divideProduct_25 E 8 (nI i) u := by
  intro n
  induction n with
  | zero =>
    intro i u hn hi hx hP hv hc
    exact w_X2_divideProduct_25 X hd hQ ⟨fun _ => hh u hx (fun j hj => by rw [hc j (by omega)]; exact hP j (by omega)) (by rw [← hv]; exact vA_cg 32 (fun j hj => hc j (by omega))), fun q => absurd (nI_le (a := 32) (by omega) (by omega)) q⟩
  | succ n ih =>
    intro i u hn hi hx hP hv hc
    have e3 : gx_r u 8 3 = 20 := (exA_r hx 8 3).trans (hf0 8 3 (by decide))
    have e2 : gx_r u 8 2 = 19 := (exA_r hx 8 2).trans (hf0 8 2 (by decide))
    refine w_X2_divideProduct_25 X hd hQ ⟨fun q => absurd q (nI_ge (b := 32) (by omega) (by omega)), fun _ => ?_⟩
    rw [e3, e2]
    refine ⟨isO_x 8 2 (by decide), isA20.r, in20 (by omega), isA19, in32 rfl (by omega), ?_⟩
    rintro u6 rfl x7 rfl
    rw [nI_1, nI_clamp (by omega)]
    refine ih (i + 1) _ (by omega) (by omega) (exA_tr hx (exA_pa _ _ (by simp))) ?_ ?_ (fun j hj => ?_)
    · rw [gx_a_pa, if_neg (by decide)]; exact hP
    · rw [gx_a_pa, if_neg (by decide)]; exact hv
    · rw [gx_a_pa, if_pos rfl, gx_a_pa, if_neg (by decide)]
      by_cases e : j = i
      · rw [e, pk_us]
      · rw [pk_un e]; exact hc j (by omega)
theorem lp1_X2_divideProduct {E : gx_E} (X : gx_X E cX2_divideProduct 2 RX2 none) (hd : 2 ≤ ex_d E) {post : gx_S → Prop} (hQ : ex_Q E = va_Qv post (gx_B (ex_Z E)) (gx_A (ex_Z E))) {u0 : gx_S} {V : Nat} (hf0 : cfix u0) (hM : okD (gx_a u0 18) 32) (hm : 32768 ≤ dv (gx_a u0 18 31)) (hh : ∀ u', exA [19, 20] u0 u' → okD (gx_a u' 19) 32 → vA (gx_a u' 19) 32 = V % vA (gx_a u0 18) 32 → post u') :
    ∀ (p : Nat) (u : gx_S), p ≤ 32 → exA [19, 20] u0 u → okD (gx_a u 20) 64 → vA (sl (gx_a u 20) p) 32 < vA (gx_a u0 18) 32 → vA (gx_a u 20) (p + 32) % vA (gx_a u0 18) 32 = V % vA (gx_a u0 18) 32 → J_X2_divideProduct_3 E 8 (nI p - 1) u := by
  have hpos := M_pos hm
  intro p
  induction p with
  | zero =>
    intro u hp hx hP hlt hv
    refine w_X2_divideProduct_3 X hd hQ ⟨fun _ => ?_, fun q => absurd neg1 q⟩
    have e : vA (sl (gx_a u 20) 0) 32 = vA (gx_a u 20) 32 := vA_cg 32 (fun j _ => by unfold sl; rw [Nat.zero_add])
    rw [e] at hlt
    refine lp2_X2_divideProduct X hd hQ hf0 hh 32 0 u (by omega) (by omega) hx hP ?_ (fun j hj => by omega)
    rw [← hv, Nat.zero_add, Nat.mod_eq_of_lt hlt]
  | succ p ih =>
    intro u hp hx hP hlt hv
    have e1 : gx_a u 18 = gx_a u0 18 := hx.2.2.2 18 (by decide)
    have hf := exA_cfix hx hf0
    rw [nI_pred]
    have hU : vA (sl (gx_a u 20) p) 33 < 65536 * vA (gx_a u0 18) 32 := by
      have h1 : vA (sl (gx_a u 20) p) 33 = vA (sl (gx_a u 20) p) 1 + 65536 ^ 1 * vA (sl (sl (gx_a u 20) p) 1) 32 := vA_sl (sl (gx_a u 20) p) 1 32
      have h2 : vA (sl (sl (gx_a u 20) p) 1) 32 = vA (sl (gx_a u 20) (p + 1)) 32 := vA_cg 32 (fun j _ => by unfold sl; rw [Nat.add_assoc])
      have h3 : vA (sl (gx_a u 20) p) 1 < 65536 ^ 1 := vA_lt 1 (okD_sl hP (by omega))
      rw [h1, h2]
      omega
    refine w_X2_divideProduct_3 X hd hQ ⟨fun q => absurd q (nI_pos (by omega)), fun _ => ⟨isO_x 8 2 (by decide), i_X2_guessedDigit hf (by omega) hP (by rw [e1]; exact hM) (by rw [e1]; exact hm) (by rw [e1]; exact hU) (fun q hq h1 h2 => ?_)⟩⟩
    rw [e1] at h1 h2
    refine ⟨rfl, hf, p, q, by omega, rfl, rfl, hq, hP, by rw [e1]; exact hM, by rw [e1]; exact hpos, by rw [e1]; exact h1, by rw [e1]; exact h2, ?_⟩
    intro u' hx' hP' ho' hz' hv'
    rw [e1] at hv'
    intro x5 e5
    rw [← Int32.sub_eq_add_neg] at e5
    subst e5
    refine ih u' (by omega) (exA_tr hx (exA_wk hx' (by simp))) hP' ?_ ?_
    · rw [hv']; exact Nat.mod_lt _ hpos
    · rw [← hv, vA_sl (gx_a u' 20) p 32, hv', show p + 1 + 32 = p + 33 by omega, vA_sl (gx_a u 20) p 33, vA_cg (a := gx_a u' 20) (b := gx_a u 20) p (fun j hj => ho' j (by omega)), Nat.add_mod, Nat.mul_mod, Nat.mod_mod, ← Nat.mul_mod, ← Nat.add_mod]
theorem w_X2_divideProduct {E : gx_E} (X : gx_X E cX2_divideProduct 2 RX2 none) (hd : 2 ≤ ex_d E) {post : gx_S → Prop} (hQ : ex_Q E = va_Qv post (gx_B (ex_Z E)) (gx_A (ex_Z E))) {u : gx_S} {v0 : Nat} (h : S_X2_divideProduct u v0 post) : gx_Wc E 2 0 [(0, .ref (ex_ad E v0))] [] u := by
  obtain ⟨rfl, hf, hP, hM, hm, hlt, hh⟩ := h
  exact w_X2_divideProduct_0 X hd hQ (lp1_X2_divideProduct X hd hQ (V := vA (gx_a u 20) 64) hf hM hm hh 32 u (by omega) (exA_rf _ _) hP hlt rfl)
theorem c_X2_divideProduct {l : Launch} {Z : gx_Z} {u : gx_S} {v0 : Nat} {post : gx_S → Prop} (h : S_X2_divideProduct u v0 post) : Met l yX2_divideProduct (Cond.code yX2_divideProduct cX2_divideProduct 2 none :: gx_TB) (gx_rm 2) (gx_Pre Z u [.ref (Z.2.1 v0)]) (va_Qv post (gx_B Z) (gx_A Z)) 0 0 (gx_A Z) := by
  refine gx_met (by decide +kernel) (Nat.le_of_ble_eq_true rfl) ?_
  intro E X hZ hQ hD hL
  subst hZ
  exact w_X2_divideProduct X (Nat.le_of_eq hD.symm) hQ h
end
section
-- PlainSeal$Modular.canTake(LPlainSeal$Bytes;)Z
theorem dX2_canTake_0 : decode cX2_canTake 0 = .ok (.aload_n 1, 1) := by decide +kernel
theorem dX2_canTake_1 : decode cX2_canTake 1 = .ok (.invokevirtual 22, 3) := by decide +kernel
theorem dX2_canTake_4 : decode cX2_canTake 4 = .ok (.sipush 128, 3) := by decide +kernel
theorem dX2_canTake_7 : decode cX2_canTake 7 = .ok (.if_icmp .ne 31, 3) := by decide +kernel
theorem dX2_canTake_10 : decode cX2_canTake 10 = .ok (.aload_n 1, 1) := by decide +kernel
theorem dX2_canTake_11 : decode cX2_canTake 11 = .ok (.bipush 64, 2) := by decide +kernel
theorem dX2_canTake_13 : decode cX2_canTake 13 = .ok (.invokevirtual 28, 3) := by decide +kernel
theorem dX2_canTake_16 : decode cX2_canTake 16 = .ok (.sipush 128, 3) := by decide +kernel
theorem dX2_canTake_19 : decode cX2_canTake 19 = .ok (.iand, 1) := by decide +kernel
theorem dX2_canTake_20 : decode cX2_canTake 20 = .ok (.ifCond .eq 18, 3) := by decide +kernel
theorem dX2_canTake_23 : decode cX2_canTake 23 = .ok (.aload_n 1, 1) := by decide +kernel
theorem dX2_canTake_24 : decode cX2_canTake 24 = .ok (.bipush 127, 2) := by decide +kernel
theorem dX2_canTake_26 : decode cX2_canTake 26 = .ok (.invokevirtual 28, 3) := by decide +kernel
theorem dX2_canTake_29 : decode cX2_canTake 29 = .ok (.iconst 1, 1) := by decide +kernel
theorem dX2_canTake_30 : decode cX2_canTake 30 = .ok (.iand, 1) := by decide +kernel
theorem dX2_canTake_31 : decode cX2_canTake 31 = .ok (.ifCond .eq 7, 3) := by decide +kernel
theorem dX2_canTake_34 : decode cX2_canTake 34 = .ok (.iconst 1, 1) := by decide +kernel
theorem dX2_canTake_35 : decode cX2_canTake 35 = .ok (.goto 4, 3) := by decide +kernel
theorem dX2_canTake_38 : decode cX2_canTake 38 = .ok (.iconst 0, 1) := by decide +kernel
theorem dX2_canTake_39 : decode cX2_canTake 39 = .ok (.ireturn, 1) := by decide +kernel
theorem hyX2_canTake : yX2_canTake.cls ≠ "java/lang/invoke/MethodHandle" ∧ yX2_canTake.cls ≠ "java/lang/invoke/VarHandle" ∧ (parseMethodDescriptor yX2_canTake.desc).map (fun d => d.parameters.length) = some 1 := by decide +kernel
def S_X2_canTake (u : gx_S) (v0 : Nat) (v1 : Nat) (post : Int32 → gx_S → Prop) : Prop := (gx_isO v1 0 ∧ S_X0_size u v1 (fun (r3 : Int32) (u2 : gx_S) => ((¬ r3 = (128 : Int32) → post (0 : Int32) u2) ∧ (r3 = (128 : Int32) → (S_X0_at u2 v1 (64 : Int32) (fun (r5 : Int32) (u4 : gx_S) => (((r5 &&& (128 : Int32)) = 0 → post (0 : Int32) u4) ∧ (¬ (r5 &&& (128 : Int32)) = 0 → (S_X0_at u4 v1 (127 : Int32) (fun (r7 : Int32) (u6 : gx_S) => (((r7 &&& (1 : Int32)) = 0 → post (0 : Int32) u6) ∧ (¬ (r7 &&& (1 : Int32)) = 0 → post (1 : Int32) u6))))))))))))
set_option maxHeartbeats 4000000 in
set_option maxRecDepth 100000 in
theorem w_X2_canTake {E : gx_E} (X : gx_X E cX2_canTake 2 RX2 (some .boolean)) (hd : 1 ≤ ex_d E) {post : Int32 → gx_S → Prop} (hQ : ex_Q E = va_Qi post (gx_B (ex_Z E)) (gx_A (ex_Z E))) {u : gx_S} {v0 : Nat} {v1 : Nat} (h : S_X2_canTake u v0 v1 post) : gx_Wc E 2 0 [(0, .ref (ex_ad E v0)), (1, .ref (ex_ad E v1))] [] u := by
  unfold S_X2_canTake at h
  refine gx_aload_n X (j := 1) dX2_canTake_0 rfl rfl ?_
  obtain ⟨k1, h⟩ := h
  refine gx_ki (gx_rV X (c_X0_size h) (Nat.le_trans (by decide) hd) (Nat.le_trans (by decide) (Nat.mul_le_mul_left 40 hd)) k1 rfl mw_374 mw_128 mw_129 mw_2 mw_130 hyX0_size (As := []) (rest := []) rfl rfl (Nat.le_of_ble_eq_true rfl) dX2_canTake_1) (fun r3 u2 h => ?_)
  refine gx_sipush X (v := 128) dX2_canTake_4 (by decide) ?_
  refine gx_icmp_ne X (tgt := 38) dX2_canTake_7 (by decide) (fun c10 => ?_) (fun c10 => ?_)
  · replace h := h.1 c10
    refine gx_iconst X (v := 0) dX2_canTake_38 (by decide) ?_
    exact gx_zret X hQ rfl h dX2_canTake_39
  · replace h := h.2 c10
    refine gx_aload_n X (j := 1) dX2_canTake_10 rfl rfl ?_
    refine gx_bipush X (v := 64) dX2_canTake_11 (by decide) ?_
    refine gx_ki (gx_rV X (c_X0_at h) (Nat.le_trans (by decide) hd) (Nat.le_trans (by decide) (Nat.mul_le_mul_left 40 hd)) k1 rfl mw_375 mw_163 mw_164 mw_2 mw_165 hyX0_at (As := [.int (64 : Int32)]) (rest := []) rfl rfl (Nat.le_of_ble_eq_true rfl) dX2_canTake_13) (fun r5 u4 h => ?_)
    refine gx_sipush X (v := 128) dX2_canTake_16 (by decide) ?_
    refine gx_iand X dX2_canTake_19 ?_
    refine gx_if_eq X (tgt := 38) dX2_canTake_20 (by decide) (fun c9 => ?_) (fun c9 => ?_)
    · replace h := h.1 c9
      refine gx_iconst X (v := 0) dX2_canTake_38 (by decide) ?_
      exact gx_zret X hQ rfl h dX2_canTake_39
    · replace h := h.2 c9
      refine gx_aload_n X (j := 1) dX2_canTake_23 rfl rfl ?_
      refine gx_bipush X (v := 127) dX2_canTake_24 (by decide) ?_
      refine gx_ki (gx_rV X (c_X0_at h) (Nat.le_trans (by decide) hd) (Nat.le_trans (by decide) (Nat.mul_le_mul_left 40 hd)) k1 rfl mw_375 mw_163 mw_164 mw_2 mw_165 hyX0_at (As := [.int (127 : Int32)]) (rest := []) rfl rfl (Nat.le_of_ble_eq_true rfl) dX2_canTake_26) (fun r7 u6 h => ?_)
      refine gx_iconst X (v := 1) dX2_canTake_29 (by decide) ?_
      refine gx_iand X dX2_canTake_30 ?_
      refine gx_if_eq X (tgt := 38) dX2_canTake_31 (by decide) (fun c8 => ?_) (fun c8 => ?_)
      · replace h := h.1 c8
        refine gx_iconst X (v := 0) dX2_canTake_38 (by decide) ?_
        exact gx_zret X hQ rfl h dX2_canTake_39
      · replace h := h.2 c8
        refine gx_iconst X (v := 1) dX2_canTake_34 (by decide) ?_
        refine gx_goto X (tgt := 39) dX2_canTake_35 (by decide) ?_
        exact gx_zret X hQ rfl h dX2_canTake_39
theorem c_X2_canTake {l : Launch} {Z : gx_Z} {u : gx_S} {v0 : Nat} {v1 : Nat} {post : Int32 → gx_S → Prop} (h : S_X2_canTake u v0 v1 post) : Met l yX2_canTake (Cond.code yX2_canTake cX2_canTake 2 (some .boolean) :: gx_TB) (gx_rm 1) (gx_Pre Z u [.ref (Z.2.1 v0), .ref (Z.2.1 v1)]) (va_Qi post (gx_B Z) (gx_A Z)) 0 0 (gx_A Z) := by
  refine gx_met (by decide +kernel) (Nat.le_of_ble_eq_true rfl) ?_
  intro E X hZ hQ hD hL
  subst hZ
  exact w_X2_canTake X (Nat.le_of_eq hD.symm) hQ h
-- PlainSeal$Modular.take(LPlainSeal$Bytes;)V
theorem dX2_take_0 : decode cX2_take 0 = .ok (.aload_n 1, 1) := by decide +kernel
theorem dX2_take_1 : decode cX2_take 1 = .ok (.iconst 0, 1) := by decide +kernel
theorem dX2_take_2 : decode cX2_take 2 = .ok (.aload_n 0, 1) := by decide +kernel
theorem dX2_take_3 : decode cX2_take 3 = .ok (.getfield 9, 3) := by decide +kernel
theorem dX2_take_6 : decode cX2_take 6 = .ok (.invokestatic 32, 3) := by decide +kernel
theorem dX2_take_9 : decode cX2_take 9 = .ok (.aload_n 1, 1) := by decide +kernel
theorem dX2_take_10 : decode cX2_take 10 = .ok (.bipush 64, 2) := by decide +kernel
theorem dX2_take_12 : decode cX2_take 12 = .ok (.aload_n 0, 1) := by decide +kernel
theorem dX2_take_13 : decode cX2_take 13 = .ok (.getfield 13, 3) := by decide +kernel
theorem dX2_take_16 : decode cX2_take 16 = .ok (.invokestatic 32, 3) := by decide +kernel
theorem dX2_take_19 : decode cX2_take 19 = .ok (.return_, 1) := by decide +kernel
theorem hyX2_take : yX2_take.cls ≠ "java/lang/invoke/MethodHandle" ∧ yX2_take.cls ≠ "java/lang/invoke/VarHandle" ∧ (parseMethodDescriptor yX2_take.desc).map (fun d => d.parameters.length) = some 1 := by decide +kernel
def S_X2_take (u : gx_S) (v0 : Nat) (v1 : Nat) (post : gx_S → Prop) : Prop := (gx_isO v0 2 ∧ (S_X2_takeNumber u v1 (0 : Int32) (gx_r u v0 0) (fun (u2 : gx_S) => (S_X2_takeNumber u2 v1 (64 : Int32) (gx_r u2 v0 1) (fun (u3 : gx_S) => post u3)))))
set_option maxHeartbeats 4000000 in
set_option maxRecDepth 100000 in
theorem w_X2_take {E : gx_E} (X : gx_X E cX2_take 2 RX2 none) (hd : 2 ≤ ex_d E) {post : gx_S → Prop} (hQ : ex_Q E = va_Qv post (gx_B (ex_Z E)) (gx_A (ex_Z E))) {u : gx_S} {v0 : Nat} {v1 : Nat} (h : S_X2_take u v0 v1 post) : gx_Wc E 2 0 [(0, .ref (ex_ad E v0)), (1, .ref (ex_ad E v1))] [] u := by
  unfold S_X2_take at h
  refine gx_aload_n X (j := 1) dX2_take_0 rfl rfl ?_
  refine gx_iconst X (v := 0) dX2_take_1 (by decide) ?_
  refine gx_aload_n X (j := 0) dX2_take_2 rfl rfl ?_
  obtain ⟨k1, h⟩ := h
  refine gx_get X k1 rfl iwX2 0 (by decide) mw_91 (v := .ref (ex_ad E (gx_r u v0 0))) rfl dX2_take_3 ?_
  refine gx_kv (gx_rS X (c_X2_takeNumber h) (Nat.le_trans (by decide) hd) (Nat.le_trans (by decide) (Nat.mul_le_mul_left 40 hd)) mw_380 mw_381 mw_6 mw_382 hyX2_takeNumber (As := [.ref (ex_ad E v1), .int (0 : Int32), .ref (ex_ad E (gx_r u v0 0))]) (rest := []) rfl rfl (Nat.le_of_ble_eq_true rfl) dX2_take_6) (fun u2 h => ?_)
  refine gx_aload_n X (j := 1) dX2_take_9 rfl rfl ?_
  refine gx_bipush X (v := 64) dX2_take_10 (by decide) ?_
  refine gx_aload_n X (j := 0) dX2_take_12 rfl rfl ?_
  refine gx_get X k1 rfl iwX2 1 (by decide) mw_92 (v := .ref (ex_ad E (gx_r u2 v0 1))) rfl dX2_take_13 ?_
  refine gx_kv (gx_rS X (c_X2_takeNumber h) (Nat.le_trans (by decide) hd) (Nat.le_trans (by decide) (Nat.mul_le_mul_left 40 hd)) mw_380 mw_381 mw_6 mw_382 hyX2_takeNumber (As := [.ref (ex_ad E v1), .int (64 : Int32), .ref (ex_ad E (gx_r u2 v0 1))]) (rest := []) rfl rfl (Nat.le_of_ble_eq_true rfl) dX2_take_16) (fun u3 h => ?_)
  exact gx_vret X hQ h dX2_take_19
theorem c_X2_take {l : Launch} {Z : gx_Z} {u : gx_S} {v0 : Nat} {v1 : Nat} {post : gx_S → Prop} (h : S_X2_take u v0 v1 post) : Met l yX2_take (Cond.code yX2_take cX2_take 2 none :: gx_TB) (gx_rm 2) (gx_Pre Z u [.ref (Z.2.1 v0), .ref (Z.2.1 v1)]) (va_Qv post (gx_B Z) (gx_A Z)) 0 0 (gx_A Z) := by
  refine gx_met (by decide +kernel) (Nat.le_of_ble_eq_true rfl) ?_
  intro E X hZ hQ hD hL
  subst hZ
  exact w_X2_take X (Nat.le_of_eq hD.symm) hQ h
-- PlainSeal$Modular.bringBaseBelowModulus()V
theorem dX2_bringBaseBelowModulus_0 : decode cX2_bringBaseBelowModulus 0 = .ok (.iconst 0, 1) := by decide +kernel
theorem dX2_bringBaseBelowModulus_1 : decode cX2_bringBaseBelowModulus 1 = .ok (.istore_n 1, 1) := by decide +kernel
theorem dX2_bringBaseBelowModulus_2 : decode cX2_bringBaseBelowModulus 2 = .ok (.iload_n 1, 1) := by decide +kernel
theorem dX2_bringBaseBelowModulus_3 : decode cX2_bringBaseBelowModulus 3 = .ok (.bipush 32, 2) := by decide +kernel
theorem dX2_bringBaseBelowModulus_5 : decode cX2_bringBaseBelowModulus 5 = .ok (.if_icmp .ge 31, 3) := by decide +kernel
theorem dX2_bringBaseBelowModulus_8 : decode cX2_bringBaseBelowModulus 8 = .ok (.aload_n 0, 1) := by decide +kernel
theorem dX2_bringBaseBelowModulus_9 : decode cX2_bringBaseBelowModulus 9 = .ok (.getfield 19, 3) := by decide +kernel
theorem dX2_bringBaseBelowModulus_12 : decode cX2_bringBaseBelowModulus 12 = .ok (.iload_n 1, 1) := by decide +kernel
theorem dX2_bringBaseBelowModulus_13 : decode cX2_bringBaseBelowModulus 13 = .ok (.aload_n 0, 1) := by decide +kernel
theorem dX2_bringBaseBelowModulus_14 : decode cX2_bringBaseBelowModulus 14 = .ok (.getfield 9, 3) := by decide +kernel
theorem dX2_bringBaseBelowModulus_17 : decode cX2_bringBaseBelowModulus 17 = .ok (.iload_n 1, 1) := by decide +kernel
theorem dX2_bringBaseBelowModulus_18 : decode cX2_bringBaseBelowModulus 18 = .ok (.iaload, 1) := by decide +kernel
theorem dX2_bringBaseBelowModulus_19 : decode cX2_bringBaseBelowModulus 19 = .ok (.iastore, 1) := by decide +kernel
theorem dX2_bringBaseBelowModulus_20 : decode cX2_bringBaseBelowModulus 20 = .ok (.aload_n 0, 1) := by decide +kernel
theorem dX2_bringBaseBelowModulus_21 : decode cX2_bringBaseBelowModulus 21 = .ok (.getfield 19, 3) := by decide +kernel
theorem dX2_bringBaseBelowModulus_24 : decode cX2_bringBaseBelowModulus 24 = .ok (.bipush 32, 2) := by decide +kernel
theorem dX2_bringBaseBelowModulus_26 : decode cX2_bringBaseBelowModulus 26 = .ok (.iload_n 1, 1) := by decide +kernel
theorem dX2_bringBaseBelowModulus_27 : decode cX2_bringBaseBelowModulus 27 = .ok (.iadd, 1) := by decide +kernel
theorem dX2_bringBaseBelowModulus_28 : decode cX2_bringBaseBelowModulus 28 = .ok (.iconst 0, 1) := by decide +kernel
theorem dX2_bringBaseBelowModulus_29 : decode cX2_bringBaseBelowModulus 29 = .ok (.iastore, 1) := by decide +kernel
theorem dX2_bringBaseBelowModulus_30 : decode cX2_bringBaseBelowModulus 30 = .ok (.iinc 1 1, 3) := by decide +kernel
theorem dX2_bringBaseBelowModulus_33 : decode cX2_bringBaseBelowModulus 33 = .ok (.goto (-31), 3) := by decide +kernel
theorem dX2_bringBaseBelowModulus_36 : decode cX2_bringBaseBelowModulus 36 = .ok (.aload_n 0, 1) := by decide +kernel
theorem dX2_bringBaseBelowModulus_37 : decode cX2_bringBaseBelowModulus 37 = .ok (.invokevirtual 50, 3) := by decide +kernel
theorem dX2_bringBaseBelowModulus_40 : decode cX2_bringBaseBelowModulus 40 = .ok (.iconst 0, 1) := by decide +kernel
theorem dX2_bringBaseBelowModulus_41 : decode cX2_bringBaseBelowModulus 41 = .ok (.istore_n 1, 1) := by decide +kernel
theorem dX2_bringBaseBelowModulus_42 : decode cX2_bringBaseBelowModulus 42 = .ok (.iload_n 1, 1) := by decide +kernel
theorem dX2_bringBaseBelowModulus_43 : decode cX2_bringBaseBelowModulus 43 = .ok (.bipush 32, 2) := by decide +kernel
theorem dX2_bringBaseBelowModulus_45 : decode cX2_bringBaseBelowModulus 45 = .ok (.if_icmp .ge 21, 3) := by decide +kernel
theorem dX2_bringBaseBelowModulus_48 : decode cX2_bringBaseBelowModulus 48 = .ok (.aload_n 0, 1) := by decide +kernel
theorem dX2_bringBaseBelowModulus_49 : decode cX2_bringBaseBelowModulus 49 = .ok (.getfield 9, 3) := by decide +kernel
theorem dX2_bringBaseBelowModulus_52 : decode cX2_bringBaseBelowModulus 52 = .ok (.iload_n 1, 1) := by decide +kernel
theorem dX2_bringBaseBelowModulus_53 : decode cX2_bringBaseBelowModulus 53 = .ok (.aload_n 0, 1) := by decide +kernel
theorem dX2_bringBaseBelowModulus_54 : decode cX2_bringBaseBelowModulus 54 = .ok (.getfield 16, 3) := by decide +kernel
theorem dX2_bringBaseBelowModulus_57 : decode cX2_bringBaseBelowModulus 57 = .ok (.iload_n 1, 1) := by decide +kernel
theorem dX2_bringBaseBelowModulus_58 : decode cX2_bringBaseBelowModulus 58 = .ok (.iaload, 1) := by decide +kernel
theorem dX2_bringBaseBelowModulus_59 : decode cX2_bringBaseBelowModulus 59 = .ok (.iastore, 1) := by decide +kernel
theorem dX2_bringBaseBelowModulus_60 : decode cX2_bringBaseBelowModulus 60 = .ok (.iinc 1 1, 3) := by decide +kernel
theorem dX2_bringBaseBelowModulus_63 : decode cX2_bringBaseBelowModulus 63 = .ok (.goto (-21), 3) := by decide +kernel
theorem dX2_bringBaseBelowModulus_66 : decode cX2_bringBaseBelowModulus 66 = .ok (.return_, 1) := by decide +kernel
theorem hyX2_bringBaseBelowModulus : yX2_bringBaseBelowModulus.cls ≠ "java/lang/invoke/MethodHandle" ∧ yX2_bringBaseBelowModulus.cls ≠ "java/lang/invoke/VarHandle" ∧ (parseMethodDescriptor yX2_bringBaseBelowModulus.desc).map (fun d => d.parameters.length) = some 0 := by decide +kernel
abbrev J_X2_bringBaseBelowModulus_2 (E : gx_E) (v0 : Nat) (v1 : Int32) (u : gx_S) : Prop := gx_Wc E 2 2 [(0, .ref (ex_ad E v0)), (1, .int v1)] [] u
abbrev J_X2_bringBaseBelowModulus_42 (E : gx_E) (v0 : Nat) (v1 : Int32) (u : gx_S) : Prop := gx_Wc E 2 42 [(0, .ref (ex_ad E v0)), (1, .int v1)] [] u
set_option maxHeartbeats 4000000 in
set_option maxRecDepth 100000 in
theorem w_X2_bringBaseBelowModulus_0 {E : gx_E} (X : gx_X E cX2_bringBaseBelowModulus 2 RX2 none) (hd : 3 ≤ ex_d E) {post : gx_S → Prop} (hQ : ex_Q E = va_Qv post (gx_B (ex_Z E)) (gx_A (ex_Z E))) {u : gx_S} {v0 : Nat} (h : J_X2_bringBaseBelowModulus_2 E v0 (0 : Int32) u) : gx_Wc E 2 0 [(0, .ref (ex_ad E v0))] [] u := by
  refine gx_iconst X (v := 0) dX2_bringBaseBelowModulus_0 (by decide) ?_
  refine gx_istore_n X (lv' := [(1, .int (0 : Int32)), (0, .ref (ex_ad E v0))]) dX2_bringBaseBelowModulus_1 rfl (by decide) rfl ?_
  exact gx_sub [1, 0] rfl h
set_option maxHeartbeats 4000000 in
set_option maxRecDepth 100000 in
theorem w_X2_bringBaseBelowModulus_2 {E : gx_E} (X : gx_X E cX2_bringBaseBelowModulus 2 RX2 none) (hd : 3 ≤ ex_d E) {post : gx_S → Prop} (hQ : ex_Q E = va_Qv post (gx_B (ex_Z E)) (gx_A (ex_Z E))) {u : gx_S} {v0 : Nat} {v1 : Int32} (h : (((32 : Int32) ≤ v1 → (gx_isO v0 2 ∧ S_X2_divideProduct u v0 (fun (u2 : gx_S) => J_X2_bringBaseBelowModulus_42 E v0 (0 : Int32) u2))) ∧ (¬ (32 : Int32) ≤ v1 → (gx_isO v0 2 ∧ (gx_isR (gx_r u v0 0) .int ∧ vp_in v1 (gx_len (gx_r u v0 0)) ∧ (gx_isA (gx_r u v0 3) .int ∧ vp_in v1 (gx_len (gx_r u v0 3)) ∧ ∀ u8 : gx_S, u8 = gx_pa u (gx_r u v0 3) (upd (gx_a u (gx_r u v0 3)) v1.toNatClampNeg (gx_a u (gx_r u v0 0) v1.toNatClampNeg)) → (gx_isA (gx_r u8 v0 3) .int ∧ vp_in ((32 : Int32) + v1) (gx_len (gx_r u8 v0 3)) ∧ ∀ u11 : gx_S, u11 = gx_pa u8 (gx_r u8 v0 3) (upd (gx_a u8 (gx_r u8 v0 3)) ((32 : Int32) + v1).toNatClampNeg (0 : Int32)) → (∀ x12 : Int32, x12 = v1 + 1 → J_X2_bringBaseBelowModulus_2 E v0 x12 u11)))))))) : gx_Wc E 2 2 [(0, .ref (ex_ad E v0)), (1, .int v1)] [] u := by
  refine gx_iload_n X (j := 1) dX2_bringBaseBelowModulus_2 rfl rfl ?_
  refine gx_bipush X (v := 32) dX2_bringBaseBelowModulus_3 (by decide) ?_
  refine gx_icmp_ge X (tgt := 36) dX2_bringBaseBelowModulus_5 (by decide) (fun c13 => ?_) (fun c13 => ?_)
  · replace h := h.1 c13
    refine gx_aload_n X (j := 0) dX2_bringBaseBelowModulus_36 rfl rfl ?_
    obtain ⟨k1, h⟩ := h
    refine gx_kv (gx_rV X (c_X2_divideProduct h) (Nat.le_trans (by decide) hd) (Nat.le_trans (by decide) (Nat.mul_le_mul_left 40 hd)) k1 rfl mw_391 mw_393 mp_6 mw_6 mw_394 hyX2_divideProduct (As := []) (rest := []) rfl rfl (Nat.le_of_ble_eq_true rfl) dX2_bringBaseBelowModulus_37) (fun u2 h => ?_)
    refine gx_iconst X (v := 0) dX2_bringBaseBelowModulus_40 (by decide) ?_
    refine gx_istore_n X (lv' := [(1, .int (0 : Int32)), (0, .ref (ex_ad E v0))]) dX2_bringBaseBelowModulus_41 rfl (by decide) rfl ?_
    exact gx_sub [1, 0] rfl h
  · replace h := h.2 c13
    refine gx_aload_n X (j := 0) dX2_bringBaseBelowModulus_8 rfl rfl ?_
    obtain ⟨k3, h⟩ := h
    refine gx_get X k3 rfl iwX2 3 (by decide) mw_94 (v := .ref (ex_ad E (gx_r u v0 3))) rfl dX2_bringBaseBelowModulus_9 ?_
    refine gx_iload_n X (j := 1) dX2_bringBaseBelowModulus_12 rfl rfl ?_
    refine gx_aload_n X (j := 0) dX2_bringBaseBelowModulus_13 rfl rfl ?_
    refine gx_get X k3 rfl iwX2 0 (by decide) mw_91 (v := .ref (ex_ad E (gx_r u v0 0))) rfl dX2_bringBaseBelowModulus_14 ?_
    refine gx_iload_n X (j := 1) dX2_bringBaseBelowModulus_17 rfl rfl ?_
    obtain ⟨k4, h⟩ := h
    obtain ⟨k5, h⟩ := h
    refine gx_iald X k4 k5 dX2_bringBaseBelowModulus_18 ?_
    obtain ⟨k6, h⟩ := h
    obtain ⟨k7, h⟩ := h
    refine gx_iast X k6 k7 dX2_bringBaseBelowModulus_19 ?_
    refine gx_nams (fun u8 eu8 => ?_)
    replace h := h u8 eu8
    refine gx_aload_n X (j := 0) dX2_bringBaseBelowModulus_20 rfl rfl ?_
    refine gx_get X k3 rfl iwX2 3 (by decide) mw_94 (v := .ref (ex_ad E (gx_r u8 v0 3))) rfl dX2_bringBaseBelowModulus_21 ?_
    refine gx_bipush X (v := 32) dX2_bringBaseBelowModulus_24 (by decide) ?_
    refine gx_iload_n X (j := 1) dX2_bringBaseBelowModulus_26 rfl rfl ?_
    refine gx_iadd X dX2_bringBaseBelowModulus_27 ?_
    refine gx_iconst X (v := 0) dX2_bringBaseBelowModulus_28 (by decide) ?_
    obtain ⟨k9, h⟩ := h
    obtain ⟨k10, h⟩ := h
    refine gx_iast X k9 k10 dX2_bringBaseBelowModulus_29 ?_
    refine gx_nams (fun u11 eu11 => ?_)
    replace h := h u11 eu11
    obtain ⟨x12, ex12⟩ : ∃ y : Int32, y = v1 + 1 := ⟨_, rfl⟩
    replace h := h x12 ex12
    refine gx_iinc X (v := x12) (lv' := [(1, .int x12), (0, .ref (ex_ad E v0))]) dX2_bringBaseBelowModulus_30 (j := 1) rfl (by rw [ex12]; rfl) (by decide) rfl ?_
    refine gx_goto X (tgt := 2) dX2_bringBaseBelowModulus_33 (by decide) ?_
    exact gx_sub [1, 0] rfl h
set_option maxHeartbeats 4000000 in
set_option maxRecDepth 100000 in
theorem w_X2_bringBaseBelowModulus_42 {E : gx_E} (X : gx_X E cX2_bringBaseBelowModulus 2 RX2 none) (hd : 3 ≤ ex_d E) {post : gx_S → Prop} (hQ : ex_Q E = va_Qv post (gx_B (ex_Z E)) (gx_A (ex_Z E))) {u : gx_S} {v0 : Nat} {v1 : Int32} (h : (((32 : Int32) ≤ v1 → post u) ∧ (¬ (32 : Int32) ≤ v1 → (gx_isO v0 2 ∧ (gx_isR (gx_r u v0 2) .int ∧ vp_in v1 (gx_len (gx_r u v0 2)) ∧ (gx_isA (gx_r u v0 0) .int ∧ vp_in v1 (gx_len (gx_r u v0 0)) ∧ ∀ u6 : gx_S, u6 = gx_pa u (gx_r u v0 0) (upd (gx_a u (gx_r u v0 0)) v1.toNatClampNeg (gx_a u (gx_r u v0 2) v1.toNatClampNeg)) → (∀ x7 : Int32, x7 = v1 + 1 → J_X2_bringBaseBelowModulus_42 E v0 x7 u6))))))) : gx_Wc E 2 42 [(0, .ref (ex_ad E v0)), (1, .int v1)] [] u := by
  refine gx_iload_n X (j := 1) dX2_bringBaseBelowModulus_42 rfl rfl ?_
  refine gx_bipush X (v := 32) dX2_bringBaseBelowModulus_43 (by decide) ?_
  refine gx_icmp_ge X (tgt := 66) dX2_bringBaseBelowModulus_45 (by decide) (fun c8 => ?_) (fun c8 => ?_)
  · replace h := h.1 c8
    exact gx_vret X hQ h dX2_bringBaseBelowModulus_66
  · replace h := h.2 c8
    refine gx_aload_n X (j := 0) dX2_bringBaseBelowModulus_48 rfl rfl ?_
    obtain ⟨k1, h⟩ := h
    refine gx_get X k1 rfl iwX2 0 (by decide) mw_91 (v := .ref (ex_ad E (gx_r u v0 0))) rfl dX2_bringBaseBelowModulus_49 ?_
    refine gx_iload_n X (j := 1) dX2_bringBaseBelowModulus_52 rfl rfl ?_
    refine gx_aload_n X (j := 0) dX2_bringBaseBelowModulus_53 rfl rfl ?_
    refine gx_get X k1 rfl iwX2 2 (by decide) mw_93 (v := .ref (ex_ad E (gx_r u v0 2))) rfl dX2_bringBaseBelowModulus_54 ?_
    refine gx_iload_n X (j := 1) dX2_bringBaseBelowModulus_57 rfl rfl ?_
    obtain ⟨k2, h⟩ := h
    obtain ⟨k3, h⟩ := h
    refine gx_iald X k2 k3 dX2_bringBaseBelowModulus_58 ?_
    obtain ⟨k4, h⟩ := h
    obtain ⟨k5, h⟩ := h
    refine gx_iast X k4 k5 dX2_bringBaseBelowModulus_59 ?_
    refine gx_nams (fun u6 eu6 => ?_)
    replace h := h u6 eu6
    obtain ⟨x7, ex7⟩ : ∃ y : Int32, y = v1 + 1 := ⟨_, rfl⟩
    replace h := h x7 ex7
    refine gx_iinc X (v := x7) (lv' := [(1, .int x7), (0, .ref (ex_ad E v0))]) dX2_bringBaseBelowModulus_60 (j := 1) rfl (by rw [ex7]; rfl) (by decide) rfl ?_
    refine gx_goto X (tgt := 42) dX2_bringBaseBelowModulus_63 (by decide) ?_
    exact gx_sub [1, 0] rfl h
-- PlainSeal$Modular.write(LPlainSeal$Bytes;)V
theorem dX2_write_0 : decode cX2_write 0 = .ok (.aload_n 1, 1) := by decide +kernel
theorem dX2_write_1 : decode cX2_write 1 = .ok (.invokevirtual 36, 3) := by decide +kernel
theorem dX2_write_4 : decode cX2_write 4 = .ok (.bipush 31, 2) := by decide +kernel
theorem dX2_write_6 : decode cX2_write 6 = .ok (.istore_n 2, 1) := by decide +kernel
theorem dX2_write_7 : decode cX2_write 7 = .ok (.iload_n 2, 1) := by decide +kernel
theorem dX2_write_8 : decode cX2_write 8 = .ok (.ifCond .lt 32, 3) := by decide +kernel
theorem dX2_write_11 : decode cX2_write 11 = .ok (.aload_n 1, 1) := by decide +kernel
theorem dX2_write_12 : decode cX2_write 12 = .ok (.aload_n 0, 1) := by decide +kernel
theorem dX2_write_13 : decode cX2_write 13 = .ok (.getfield 16, 3) := by decide +kernel
theorem dX2_write_16 : decode cX2_write 16 = .ok (.iload_n 2, 1) := by decide +kernel
theorem dX2_write_17 : decode cX2_write 17 = .ok (.iaload, 1) := by decide +kernel
theorem dX2_write_18 : decode cX2_write 18 = .ok (.bipush 8, 2) := by decide +kernel
theorem dX2_write_20 : decode cX2_write 20 = .ok (.iushr, 1) := by decide +kernel
theorem dX2_write_21 : decode cX2_write 21 = .ok (.invokevirtual 39, 3) := by decide +kernel
theorem dX2_write_24 : decode cX2_write 24 = .ok (.aload_n 1, 1) := by decide +kernel
theorem dX2_write_25 : decode cX2_write 25 = .ok (.aload_n 0, 1) := by decide +kernel
theorem dX2_write_26 : decode cX2_write 26 = .ok (.getfield 16, 3) := by decide +kernel
theorem dX2_write_29 : decode cX2_write 29 = .ok (.iload_n 2, 1) := by decide +kernel
theorem dX2_write_30 : decode cX2_write 30 = .ok (.iaload, 1) := by decide +kernel
theorem dX2_write_31 : decode cX2_write 31 = .ok (.invokevirtual 39, 3) := by decide +kernel
theorem dX2_write_34 : decode cX2_write 34 = .ok (.iinc 2 (-1), 3) := by decide +kernel
theorem dX2_write_37 : decode cX2_write 37 = .ok (.goto (-30), 3) := by decide +kernel
theorem dX2_write_40 : decode cX2_write 40 = .ok (.return_, 1) := by decide +kernel
theorem hyX2_write : yX2_write.cls ≠ "java/lang/invoke/MethodHandle" ∧ yX2_write.cls ≠ "java/lang/invoke/VarHandle" ∧ (parseMethodDescriptor yX2_write.desc).map (fun d => d.parameters.length) = some 1 := by decide +kernel
abbrev J_X2_write_7 (E : gx_E) (v0 : Nat) (v1 : Nat) (v2 : Int32) (u : gx_S) : Prop := gx_Wc E 3 7 [(0, .ref (ex_ad E v0)), (1, .ref (ex_ad E v1)), (2, .int v2)] [] u
set_option maxHeartbeats 4000000 in
set_option maxRecDepth 100000 in
theorem w_X2_write_0 {E : gx_E} (X : gx_X E cX2_write 3 RX2 none) (hd : 1 ≤ ex_d E) {post : gx_S → Prop} (hQ : ex_Q E = va_Qv post (gx_B (ex_Z E)) (gx_A (ex_Z E))) {u : gx_S} {v0 : Nat} {v1 : Nat} (h : (gx_isO v1 0 ∧ S_X0_clear u v1 (fun (u2 : gx_S) => J_X2_write_7 E v0 v1 (31 : Int32) u2))) : gx_Wc E 3 0 [(0, .ref (ex_ad E v0)), (1, .ref (ex_ad E v1))] [] u := by
  refine gx_aload_n X (j := 1) dX2_write_0 rfl rfl ?_
  obtain ⟨k1, h⟩ := h
  refine gx_kv (gx_rV X (c_X0_clear h) (Nat.le_trans (by decide) hd) (Nat.le_trans (by decide) (Nat.mul_le_mul_left 40 hd)) k1 rfl mw_420 mw_192 mw_193 mw_2 mw_194 hyX0_clear (As := []) (rest := []) rfl rfl (Nat.le_of_ble_eq_true rfl) dX2_write_1) (fun u2 h => ?_)
  refine gx_bipush X (v := 31) dX2_write_4 (by decide) ?_
  refine gx_istore_n X (lv' := [(2, .int (31 : Int32)), (0, .ref (ex_ad E v0)), (1, .ref (ex_ad E v1))]) dX2_write_6 rfl (by decide) rfl ?_
  exact gx_sub [1, 2, 0] rfl h
set_option maxHeartbeats 4000000 in
set_option maxRecDepth 100000 in
theorem w_X2_write_7 {E : gx_E} (X : gx_X E cX2_write 3 RX2 none) (hd : 1 ≤ ex_d E) {post : gx_S → Prop} (hQ : ex_Q E = va_Qv post (gx_B (ex_Z E)) (gx_A (ex_Z E))) {u : gx_S} {v0 : Nat} {v1 : Nat} {v2 : Int32} (h : ((v2 < 0 → post u) ∧ (¬ v2 < 0 → (gx_isO v0 2 ∧ (gx_isR (gx_r u v0 2) .int ∧ vp_in v2 (gx_len (gx_r u v0 2)) ∧ (gx_isO v1 0 ∧ S_X0_add u v1 (((gx_a u (gx_r u v0 2) v2.toNatClampNeg).toUInt32 >>> ((8 : Int32).toUInt32 &&& Int32.toUInt32 31)).toInt32) (fun (u5 : gx_S) => (gx_isR (gx_r u5 v0 2) .int ∧ vp_in v2 (gx_len (gx_r u5 v0 2)) ∧ (S_X0_add u5 v1 (gx_a u5 (gx_r u5 v0 2) v2.toNatClampNeg) (fun (u8 : gx_S) => (∀ x9 : Int32, x9 = v2 + (-1) → J_X2_write_7 E v0 v1 x9 u8))))))))))) : gx_Wc E 3 7 [(0, .ref (ex_ad E v0)), (1, .ref (ex_ad E v1)), (2, .int v2)] [] u := by
  refine gx_iload_n X (j := 2) dX2_write_7 rfl rfl ?_
  refine gx_if_lt X (tgt := 40) dX2_write_8 (by decide) (fun c10 => ?_) (fun c10 => ?_)
  · replace h := h.1 c10
    exact gx_vret X hQ h dX2_write_40
  · replace h := h.2 c10
    refine gx_aload_n X (j := 1) dX2_write_11 rfl rfl ?_
    refine gx_aload_n X (j := 0) dX2_write_12 rfl rfl ?_
    obtain ⟨k1, h⟩ := h
    refine gx_get X k1 rfl iwX2 2 (by decide) mw_93 (v := .ref (ex_ad E (gx_r u v0 2))) rfl dX2_write_13 ?_
    refine gx_iload_n X (j := 2) dX2_write_16 rfl rfl ?_
    obtain ⟨k2, h⟩ := h
    obtain ⟨k3, h⟩ := h
    refine gx_iald X k2 k3 dX2_write_17 ?_
    refine gx_bipush X (v := 8) dX2_write_18 (by decide) ?_
    refine gx_iushr X (v := ((gx_a u (gx_r u v0 2) v2.toNatClampNeg).toUInt32 >>> ((8 : Int32).toUInt32 &&& Int32.toUInt32 31)).toInt32) dX2_write_20 rfl ?_
    obtain ⟨k4, h⟩ := h
    refine gx_kv (gx_rV X (c_X0_add h) (Nat.le_trans (by decide) hd) (Nat.le_trans (by decide) (Nat.mul_le_mul_left 40 hd)) k4 rfl mw_421 mw_136 mw_137 mw_2 mw_138 hyX0_add (As := [.int (((gx_a u (gx_r u v0 2) v2.toNatClampNeg).toUInt32 >>> ((8 : Int32).toUInt32 &&& Int32.toUInt32 31)).toInt32)]) (rest := []) rfl rfl (Nat.le_of_ble_eq_true rfl) dX2_write_21) (fun u5 h => ?_)
    refine gx_aload_n X (j := 1) dX2_write_24 rfl rfl ?_
    refine gx_aload_n X (j := 0) dX2_write_25 rfl rfl ?_
    refine gx_get X k1 rfl iwX2 2 (by decide) mw_93 (v := .ref (ex_ad E (gx_r u5 v0 2))) rfl dX2_write_26 ?_
    refine gx_iload_n X (j := 2) dX2_write_29 rfl rfl ?_
    obtain ⟨k6, h⟩ := h
    obtain ⟨k7, h⟩ := h
    refine gx_iald X k6 k7 dX2_write_30 ?_
    refine gx_kv (gx_rV X (c_X0_add h) (Nat.le_trans (by decide) hd) (Nat.le_trans (by decide) (Nat.mul_le_mul_left 40 hd)) k4 rfl mw_421 mw_136 mw_137 mw_2 mw_138 hyX0_add (As := [.int (gx_a u5 (gx_r u5 v0 2) v2.toNatClampNeg)]) (rest := []) rfl rfl (Nat.le_of_ble_eq_true rfl) dX2_write_31) (fun u8 h => ?_)
    obtain ⟨x9, ex9⟩ : ∃ y : Int32, y = v2 + (-1) := ⟨_, rfl⟩
    replace h := h x9 ex9
    refine gx_iinc X (v := x9) (lv' := [(2, .int x9), (0, .ref (ex_ad E v0)), (1, .ref (ex_ad E v1))]) dX2_write_34 (j := 2) rfl (by rw [ex9]; rfl) (by decide) rfl ?_
    refine gx_goto X (tgt := 7) dX2_write_37 (by decide) ?_
    exact gx_sub [1, 2, 0] rfl h
theorem and128 : ∀ c, c < 256 → ((nI c &&& (128 : Int32)) = 0 ↔ c < 128) := by decide +kernel
theorem and1_ : ∀ c, c < 256 → ((nI c &&& (1 : Int32)) = 0 ↔ c % 2 = 0) := by decide +kernel
def canT (T : List Nat) : Bool := decide (T.length = 128) && (decide (128 ≤ ch T 64) && decide (ch T 127 % 2 = 1))
theorem i_X2_canTake {u : gx_S} {o : Nat} {T : List Nat} {post : Int32 → gx_S → Prop} (hT : byL u 1 T) (h : post (b2 (canT T)) u) : S_X2_canTake u o 1 post := by
  have hT2 := hT.2.2.2.2.1
  unfold canT at h
  refine ⟨hT.1, i_X0_size hT ⟨fun q => ?_, fun q => ?_⟩⟩
  · rw [decide_eq_false (fun e => q (by rw [e]; rfl))] at h; exact h
  · have q2 : T.length = 128 := (nI_eq (b := 128) (by omega) (by omega)).mp q
    have c1 : ch T 64 < 256 := ch_lt hT.2.2.2.2.2.1 (by omega)
    have c2 : ch T 127 < 256 := ch_lt hT.2.2.2.2.2.1 (by omega)
    rw [decide_eq_true q2, Bool.true_and] at h
    refine i_X0_at (j := 64) hT (by omega) ?_
    rw [cI_lo c1, and128 _ c1]
    refine ⟨fun z => ?_, fun z => i_X0_at (j := 127) hT (by omega) ?_⟩
    · rw [decide_eq_false (by omega)] at h; exact h
    · rw [decide_eq_true (by omega), Bool.true_and] at h
      rw [cI_lo c2, and1_ _ c2]
      refine ⟨fun z2 => ?_, fun z2 => ?_⟩
      · rw [decide_eq_false (by omega)] at h; exact h
      · rw [decide_eq_true (by omega)] at h; exact h
theorem i_X2_take {u : gx_S} {T : List Nat} {post : gx_S → Prop} (hf : cfix u) (hT : byL u 1 T) (hl : T.length = 128) (h : ∀ u', exA [17, 18] u u' → (∀ i, i < 32 → gx_a u' 17 i = dgT T 0 i) → (∀ i, i < 32 → gx_a u' 18 i = dgT T 64 i) → post u') : S_X2_take u 8 1 post := by
  unfold S_X2_take
  rw [show gx_r u 8 0 = 17 from hf 8 0 (by decide)]
  refine ⟨isO_x 8 2 (by decide), T, 0, hT, by omega, nI_0.symm, isA17, rfl, by rw [hf 1 0 (by decide)]; decide, ?_⟩
  intro u2 hx2 hd2
  have hf2 := exA_cfix hx2 hf
  rw [show gx_r u2 8 1 = 18 from hf2 8 1 (by decide)]
  refine ⟨T, 64, exA_byL hx2 hT (by rw [hf 1 0 (by decide)]; decide), by omega, rfl, isA18, rfl, by rw [hf2 1 0 (by decide)]; decide, ?_⟩
  intro u3 hx3 hd3
  refine h u3 (exA_tr (exA_wk hx2 (by simp)) (exA_wk hx3 (by simp))) (fun i hi => ?_) hd3
  rw [hx3.2.2.2 17 (by decide)]; exact hd2 i hi
def S_X2_bringBaseBelowModulus (u : gx_S) (v0 : Nat) (post : gx_S → Prop) : Prop := v0 = 8 ∧ cfix u ∧ okD (gx_a u 17) 32 ∧ okD (gx_a u 18) 32 ∧ 32768 ≤ dv (gx_a u 18 31) ∧ ∀ u', exA [17, 19, 20] u u' → okD (gx_a u' 17) 32 → okD (gx_a u' 19) 32 → vA (gx_a u' 17) 32 = vA (gx_a u 17) 32 % vA (gx_a u 18) 32 → vA (gx_a u' 19) 32 = vA (gx_a u 17) 32 % vA (gx_a u 18) 32 → post u'
theorem lp2_X2_bring {E : gx_E} (X : gx_X E cX2_bringBaseBelowModulus 2 RX2 none) (hd : 3 ≤ ex_d E) {post : gx_S → Prop} (hQ : ex_Q E = va_Qv post (gx_B (ex_Z E)) (gx_A (ex_Z E))) {u0 : gx_S} {V : Nat} (hf0 : cfix u0) (hh : ∀ u', exA [17, 19, 20] u0 u' → okD (gx_a u' 17) 32 → okD (gx_a u' 19) 32 → vA (gx_a u' 17) 32 = V → vA (gx_a u' 19) 32 = V → post u') :
    ∀ (n i : Nat) (u : gx_S), 32 - i = n → i ≤ 32 → exA [17, 19, 20] u0 u → okD (gx_a u 19) 32 → vA (gx_a u 19) 32 = V → (∀ j, j < i → gx_a u 17 j = gx_a u 19 j) → J_X2_bringBaseBelowModulus_42 E 8 (nI i) u := by
  intro n
  induction n with
  | zero =>
    intro i u hn hi hx hR hv hc
    exact w_X2_bringBaseBelowModulus_42 X hd hQ ⟨fun _ => hh u hx (fun j hj => by rw [hc j (by omega)]; exact hR j hj) hR (by rw [← hv]; exact vA_cg 32 (fun j hj => hc j (by omega))) hv, fun q => absurd (nI_le (a := 32) (by omega) (by omega)) q⟩
  | succ n ih =>
    intro i u hn hi hx hR hv hc
    have e2 : gx_r u 8 2 = 19 := (exA_r hx 8 2).trans (hf0 8 2 (by decide))
    have e0 : gx_r u 8 0 = 17 := (exA_r hx 8 0).trans (hf0 8 0 (by decide))
    refine w_X2_bringBaseBelowModulus_42 X hd hQ ⟨fun q => absurd q (nI_ge (b := 32) (by omega) (by omega)), fun _ => ?_⟩
    rw [e2, e0]
    refine ⟨isO_x 8 2 (by decide), isA19.r, in32 rfl (by omega), isA17, in32 rfl (by omega), ?_⟩
    rintro u6 rfl x7 rfl
    rw [nI_1, nI_clamp (by omega)]
    refine ih (i + 1) _ (by omega) (by omega) (exA_tr hx (exA_pa _ _ (by simp))) ?_ ?_ (fun j hj => ?_)
    · rw [gx_a_pa, if_neg (by decide)]; exact hR
    · rw [gx_a_pa, if_neg (by decide)]; exact hv
    · rw [gx_a_pa, if_pos rfl, gx_a_pa, if_neg (by decide)]
      by_cases e : j = i
      · rw [e, pk_us]
      · rw [pk_un e]; exact hc j (by omega)
theorem vA_zero {a : Nat → Int32} : ∀ n, (∀ j, j < n → a j = 0) → vA a n = 0
  | 0, _ => rfl
  | n + 1, h => by
    rw [vA_s, vA_zero n (fun j hj => h j (by omega)), h n (by omega), show dv 0 = 0 by decide, Nat.zero_mul]
theorem lp1_X2_bring {E : gx_E} (X : gx_X E cX2_bringBaseBelowModulus 2 RX2 none) (hd : 3 ≤ ex_d E) {post : gx_S → Prop} (hQ : ex_Q E = va_Qv post (gx_B (ex_Z E)) (gx_A (ex_Z E))) {u0 : gx_S} (hf0 : cfix u0) (hB : okD (gx_a u0 17) 32) (hM : okD (gx_a u0 18) 32) (hm : 32768 ≤ dv (gx_a u0 18 31)) (hh : ∀ u', exA [17, 19, 20] u0 u' → okD (gx_a u' 17) 32 → okD (gx_a u' 19) 32 → vA (gx_a u' 17) 32 = vA (gx_a u0 17) 32 % vA (gx_a u0 18) 32 → vA (gx_a u' 19) 32 = vA (gx_a u0 17) 32 % vA (gx_a u0 18) 32 → post u') :
    ∀ (n i : Nat) (u : gx_S), 32 - i = n → i ≤ 32 → exA [20] u0 u → (∀ j, j < i → gx_a u 20 j = gx_a u0 17 j) → (∀ j, j < i → gx_a u 20 (32 + j) = 0) → J_X2_bringBaseBelowModulus_2 E 8 (nI i) u := by
  intro n
  induction n with
  | zero =>
    intro i u hn hi hx h1 h2
    have ei : i = 32 := by omega
    subst ei
    have e1 : gx_a u 18 = gx_a u0 18 := hx.2.2.2 18 (by decide)
    have z : vA (sl (gx_a u 20) 32) 32 = 0 := vA_zero 32 (fun j hj => h2 j hj)
    have v64 : vA (gx_a u 20) 64 = vA (gx_a u0 17) 32 := by
      rw [show (64 : Nat) = 32 + 32 from rfl, vA_sl, z, Nat.mul_zero, Nat.add_zero]
      exact vA_cg 32 h1
    refine w_X2_bringBaseBelowModulus_2 X hd hQ ⟨fun _ => ⟨isO_x 8 2 (by decide), rfl, exA_cfix hx hf0, ?_, by rw [e1]; exact hM, by rw [e1]; exact hm, ?_, ?_⟩, fun q => absurd (nI_le (a := 32) (by omega) (by omega)) q⟩
    · intro j hj
      by_cases e : j < 32
      · rw [h1 j e]; exact hB j e
      · have := h2 (j - 32) (by omega)
        rw [show 32 + (j - 32) = j by omega] at this
        rw [this]; decide
    · rw [z, e1]; exact M_pos hm
    · intro u' hx' hok hv
      rw [v64, e1] at hv
      exact lp2_X2_bring X hd hQ hf0 hh 32 0 u' (by omega) (by omega) (exA_tr (exA_wk hx (by simp)) (exA_wk hx' (by simp))) hok hv (fun j hj => by omega)
  | succ n ih =>
    intro i u hn hi hx h1 h2
    have e3 : gx_r u 8 3 = 20 := (exA_r hx 8 3).trans (hf0 8 3 (by decide))
    have e0 : gx_r u 8 0 = 17 := (exA_r hx 8 0).trans (hf0 8 0 (by decide))
    have ea : gx_a u 17 = gx_a u0 17 := hx.2.2.2 17 (by decide)
    refine w_X2_bringBaseBelowModulus_2 X hd hQ ⟨fun q => absurd q (nI_ge (b := 32) (by omega) (by omega)), fun _ => ?_⟩
    rw [e3, e0, ea]
    refine ⟨isO_x 8 2 (by decide), isA17.r, in32 rfl (by omega), isA20, in20 (by omega), ?_⟩
    rintro u8 rfl
    rw [gx_r_pa, e3, show (32 : Int32) = nI 32 from rfl, nI_add]
    refine ⟨isA20, in20 (by omega), ?_⟩
    rintro u11 rfl x12 rfl
    rw [nI_1, nI_clamp (by omega), nI_clamp (by omega)]
    refine ih (i + 1) _ (by omega) (by omega) (exA_tr hx (exA_tr (exA_pa _ _ (by simp)) (exA_pa _ _ (by simp)))) (fun j hj => ?_) (fun j hj => ?_)
    · rw [gx_a_pa, if_pos rfl, pk_un (by omega), gx_a_pa, if_pos rfl]
      by_cases e : j = i
      · rw [e, pk_us]
      · rw [pk_un e]; exact h1 j (by omega)
    · rw [gx_a_pa, if_pos rfl]
      by_cases e : j = i
      · rw [e, pk_us]
      · rw [pk_un (by omega), gx_a_pa, if_pos rfl, pk_un (by omega)]; exact h2 j (by omega)
theorem w_X2_bringBaseBelowModulus {E : gx_E} (X : gx_X E cX2_bringBaseBelowModulus 2 RX2 none) (hd : 3 ≤ ex_d E) {post : gx_S → Prop} (hQ : ex_Q E = va_Qv post (gx_B (ex_Z E)) (gx_A (ex_Z E))) {u : gx_S} {v0 : Nat} (h : S_X2_bringBaseBelowModulus u v0 post) : gx_Wc E 2 0 [(0, .ref (ex_ad E v0))] [] u := by
  obtain ⟨rfl, hf, hB, hM, hm, hh⟩ := h
  exact w_X2_bringBaseBelowModulus_0 X hd hQ (lp1_X2_bring X hd hQ hf hB hM hm hh 32 0 u (by omega) (by omega) (exA_rf _ _) (fun j hj => by omega) (fun j hj => by omega))
theorem c_X2_bringBaseBelowModulus {l : Launch} {Z : gx_Z} {u : gx_S} {v0 : Nat} {post : gx_S → Prop} (h : S_X2_bringBaseBelowModulus u v0 post) : Met l yX2_bringBaseBelowModulus (Cond.code yX2_bringBaseBelowModulus cX2_bringBaseBelowModulus 2 none :: gx_TB) (gx_rm 3) (gx_Pre Z u [.ref (Z.2.1 v0)]) (va_Qv post (gx_B Z) (gx_A Z)) 0 0 (gx_A Z) := by
  refine gx_met (by decide +kernel) (Nat.le_of_ble_eq_true rfl) ?_
  intro E X hZ hQ hD hL
  subst hZ
  exact w_X2_bringBaseBelowModulus X (Nat.le_of_eq hD.symm) hQ h
-- PlainSeal$Modular.raise()V
theorem dX2_raise_0 : decode cX2_raise 0 = .ok (.aload_n 0, 1) := by decide +kernel
theorem dX2_raise_1 : decode cX2_raise 1 = .ok (.invokevirtual 43, 3) := by decide +kernel
theorem dX2_raise_4 : decode cX2_raise 4 = .ok (.iconst 0, 1) := by decide +kernel
theorem dX2_raise_5 : decode cX2_raise 5 = .ok (.istore_n 1, 1) := by decide +kernel
theorem dX2_raise_6 : decode cX2_raise 6 = .ok (.iload_n 1, 1) := by decide +kernel
theorem dX2_raise_7 : decode cX2_raise 7 = .ok (.bipush 16, 2) := by decide +kernel
theorem dX2_raise_9 : decode cX2_raise 9 = .ok (.if_icmp .ge 21, 3) := by decide +kernel
theorem dX2_raise_12 : decode cX2_raise 12 = .ok (.aload_n 0, 1) := by decide +kernel
theorem dX2_raise_13 : decode cX2_raise 13 = .ok (.aload_n 0, 1) := by decide +kernel
theorem dX2_raise_14 : decode cX2_raise 14 = .ok (.getfield 16, 3) := by decide +kernel
theorem dX2_raise_17 : decode cX2_raise 17 = .ok (.invokevirtual 46, 3) := by decide +kernel
theorem dX2_raise_20 : decode cX2_raise 20 = .ok (.aload_n 0, 1) := by decide +kernel
theorem dX2_raise_21 : decode cX2_raise 21 = .ok (.invokevirtual 50, 3) := by decide +kernel
theorem dX2_raise_24 : decode cX2_raise 24 = .ok (.iinc 1 1, 3) := by decide +kernel
theorem dX2_raise_27 : decode cX2_raise 27 = .ok (.goto (-21), 3) := by decide +kernel
theorem dX2_raise_30 : decode cX2_raise 30 = .ok (.aload_n 0, 1) := by decide +kernel
theorem dX2_raise_31 : decode cX2_raise 31 = .ok (.aload_n 0, 1) := by decide +kernel
theorem dX2_raise_32 : decode cX2_raise 32 = .ok (.getfield 9, 3) := by decide +kernel
theorem dX2_raise_35 : decode cX2_raise 35 = .ok (.invokevirtual 46, 3) := by decide +kernel
theorem dX2_raise_38 : decode cX2_raise 38 = .ok (.aload_n 0, 1) := by decide +kernel
theorem dX2_raise_39 : decode cX2_raise 39 = .ok (.invokevirtual 50, 3) := by decide +kernel
theorem dX2_raise_42 : decode cX2_raise 42 = .ok (.return_, 1) := by decide +kernel
theorem hyX2_raise : yX2_raise.cls ≠ "java/lang/invoke/MethodHandle" ∧ yX2_raise.cls ≠ "java/lang/invoke/VarHandle" ∧ (parseMethodDescriptor yX2_raise.desc).map (fun d => d.parameters.length) = some 0 := by decide +kernel
abbrev J_X2_raise_6 (E : gx_E) (v0 : Nat) (v1 : Int32) (u : gx_S) : Prop := gx_Wc E 2 6 [(0, .ref (ex_ad E v0)), (1, .int v1)] [] u
set_option maxHeartbeats 4000000 in
set_option maxRecDepth 100000 in
theorem w_X2_raise_0 {E : gx_E} (X : gx_X E cX2_raise 2 RX2 none) (hd : 4 ≤ ex_d E) {post : gx_S → Prop} (hQ : ex_Q E = va_Qv post (gx_B (ex_Z E)) (gx_A (ex_Z E))) {u : gx_S} {v0 : Nat} (h : (gx_isO v0 2 ∧ S_X2_bringBaseBelowModulus u v0 (fun (u2 : gx_S) => J_X2_raise_6 E v0 (0 : Int32) u2))) : gx_Wc E 2 0 [(0, .ref (ex_ad E v0))] [] u := by
  refine gx_aload_n X (j := 0) dX2_raise_0 rfl rfl ?_
  obtain ⟨k1, h⟩ := h
  refine gx_kv (gx_rV X (c_X2_bringBaseBelowModulus h) (Nat.le_trans (by decide) hd) (Nat.le_trans (by decide) (Nat.mul_le_mul_left 40 hd)) k1 rfl mw_387 mw_389 mp_5 mw_6 mw_390 hyX2_bringBaseBelowModulus (As := []) (rest := []) rfl rfl (Nat.le_of_ble_eq_true rfl) dX2_raise_1) (fun u2 h => ?_)
  refine gx_iconst X (v := 0) dX2_raise_4 (by decide) ?_
  refine gx_istore_n X (lv' := [(1, .int (0 : Int32)), (0, .ref (ex_ad E v0))]) dX2_raise_5 rfl (by decide) rfl ?_
  exact gx_sub [1, 0] rfl h
set_option maxHeartbeats 4000000 in
set_option maxRecDepth 100000 in
theorem w_X2_raise_6 {E : gx_E} (X : gx_X E cX2_raise 2 RX2 none) (hd : 4 ≤ ex_d E) {post : gx_S → Prop} (hQ : ex_Q E = va_Qv post (gx_B (ex_Z E)) (gx_A (ex_Z E))) {u : gx_S} {v0 : Nat} {v1 : Int32} (h : (((16 : Int32) ≤ v1 → (gx_isO v0 2 ∧ (S_X2_multiplyRestBy u v0 (gx_r u v0 0) (fun (u2 : gx_S) => (S_X2_divideProduct u2 v0 (fun (u3 : gx_S) => post u3)))))) ∧ (¬ (16 : Int32) ≤ v1 → (gx_isO v0 2 ∧ (S_X2_multiplyRestBy u v0 (gx_r u v0 2) (fun (u5 : gx_S) => (S_X2_divideProduct u5 v0 (fun (u6 : gx_S) => (∀ x7 : Int32, x7 = v1 + 1 → J_X2_raise_6 E v0 x7 u6))))))))) : gx_Wc E 2 6 [(0, .ref (ex_ad E v0)), (1, .int v1)] [] u := by
  refine gx_iload_n X (j := 1) dX2_raise_6 rfl rfl ?_
  refine gx_bipush X (v := 16) dX2_raise_7 (by decide) ?_
  refine gx_icmp_ge X (tgt := 30) dX2_raise_9 (by decide) (fun c8 => ?_) (fun c8 => ?_)
  · replace h := h.1 c8
    refine gx_aload_n X (j := 0) dX2_raise_30 rfl rfl ?_
    refine gx_aload_n X (j := 0) dX2_raise_31 rfl rfl ?_
    obtain ⟨k1, h⟩ := h
    refine gx_get X k1 rfl iwX2 0 (by decide) mw_91 (v := .ref (ex_ad E (gx_r u v0 0))) rfl dX2_raise_32 ?_
    refine gx_kv (gx_rV X (c_X2_multiplyRestBy h) (Nat.le_trans (by decide) hd) (Nat.le_trans (by decide) (Nat.mul_le_mul_left 40 hd)) k1 rfl mw_412 mw_414 mp_10 mw_6 mw_415 hyX2_multiplyRestBy (As := [.ref (ex_ad E (gx_r u v0 0))]) (rest := []) rfl rfl (Nat.le_of_ble_eq_true rfl) dX2_raise_35) (fun u2 h => ?_)
    refine gx_aload_n X (j := 0) dX2_raise_38 rfl rfl ?_
    refine gx_kv (gx_rV X (c_X2_divideProduct h) (Nat.le_trans (by decide) hd) (Nat.le_trans (by decide) (Nat.mul_le_mul_left 40 hd)) k1 rfl mw_391 mw_393 mp_6 mw_6 mw_394 hyX2_divideProduct (As := []) (rest := []) rfl rfl (Nat.le_of_ble_eq_true rfl) dX2_raise_39) (fun u3 h => ?_)
    exact gx_vret X hQ h dX2_raise_42
  · replace h := h.2 c8
    refine gx_aload_n X (j := 0) dX2_raise_12 rfl rfl ?_
    refine gx_aload_n X (j := 0) dX2_raise_13 rfl rfl ?_
    obtain ⟨k4, h⟩ := h
    refine gx_get X k4 rfl iwX2 2 (by decide) mw_93 (v := .ref (ex_ad E (gx_r u v0 2))) rfl dX2_raise_14 ?_
    refine gx_kv (gx_rV X (c_X2_multiplyRestBy h) (Nat.le_trans (by decide) hd) (Nat.le_trans (by decide) (Nat.mul_le_mul_left 40 hd)) k4 rfl mw_412 mw_414 mp_10 mw_6 mw_415 hyX2_multiplyRestBy (As := [.ref (ex_ad E (gx_r u v0 2))]) (rest := []) rfl rfl (Nat.le_of_ble_eq_true rfl) dX2_raise_17) (fun u5 h => ?_)
    refine gx_aload_n X (j := 0) dX2_raise_20 rfl rfl ?_
    refine gx_kv (gx_rV X (c_X2_divideProduct h) (Nat.le_trans (by decide) hd) (Nat.le_trans (by decide) (Nat.mul_le_mul_left 40 hd)) k4 rfl mw_391 mw_393 mp_6 mw_6 mw_394 hyX2_divideProduct (As := []) (rest := []) rfl rfl (Nat.le_of_ble_eq_true rfl) dX2_raise_21) (fun u6 h => ?_)
    obtain ⟨x7, ex7⟩ : ∃ y : Int32, y = v1 + 1 := ⟨_, rfl⟩
    replace h := h x7 ex7
    refine gx_iinc X (v := x7) (lv' := [(1, .int x7), (0, .ref (ex_ad E v0))]) dX2_raise_24 (j := 1) rfl (by rw [ex7]; rfl) (by decide) rfl ?_
    refine gx_goto X (tgt := 6) dX2_raise_27 (by decide) ?_
    exact gx_sub [1, 0] rfl h
theorem up_lt {P : Nat → Int32} {r o Mv : Nat} (h : vA P 64 = r * o) (hr : r < Mv) (ho : o < 65536 ^ 32) : vA (sl P 32) 32 < Mv := by
  rw [show (64 : Nat) = 32 + 32 from rfl, vA_sl] at h
  have h1 : 65536 ^ 32 * vA (sl P 32) 32 ≤ r * o := by omega
  have h2 : r * o ≤ r * 65536 ^ 32 := Nat.mul_le_mul_left r (by omega)
  have h3 : 65536 ^ 32 * vA (sl P 32) 32 ≤ 65536 ^ 32 * r := by rw [Nat.mul_comm _ r]; omega
  have := Nat.le_of_mul_le_mul_left h3 (Nat.pow_pos (by omega))
  omega
def S_X2_raise (u : gx_S) (v0 : Nat) (post : gx_S → Prop) : Prop := v0 = 8 ∧ cfix u ∧ okD (gx_a u 17) 32 ∧ okD (gx_a u 18) 32 ∧ 32768 ≤ dv (gx_a u 18 31) ∧ ∀ u', exA [17, 19, 20] u u' → okD (gx_a u' 19) 32 → vA (gx_a u' 19) 32 = vA (gx_a u 17) 32 ^ 65537 % vA (gx_a u 18) 32 → post u'
theorem pw_s (b k : Nat) : b ^ (2 ^ (k + 1)) = b ^ 2 ^ k * b ^ 2 ^ k := by
  rw [Nat.pow_succ, Nat.mul_comm, Nat.two_mul, Nat.pow_add]
theorem lp_X2_raise {E : gx_E} (X : gx_X E cX2_raise 2 RX2 none) (hd : 4 ≤ ex_d E) {post : gx_S → Prop} (hQ : ex_Q E = va_Qv post (gx_B (ex_Z E)) (gx_A (ex_Z E))) {u0 : gx_S} {b : Nat} (hf0 : cfix u0) (hM : okD (gx_a u0 18) 32) (hm : 32768 ≤ dv (gx_a u0 18 31)) (hh : ∀ u', exA [17, 19, 20] u0 u' → okD (gx_a u' 19) 32 → vA (gx_a u' 19) 32 = b ^ 65537 % vA (gx_a u0 18) 32 → post u') :
    ∀ (n i : Nat) (u : gx_S), 16 - i = n → i ≤ 16 → exA [17, 19, 20] u0 u → okD (gx_a u 17) 32 → okD (gx_a u 19) 32 → vA (gx_a u 17) 32 = b % vA (gx_a u0 18) 32 → vA (gx_a u 19) 32 = b ^ 2 ^ i % vA (gx_a u0 18) 32 → J_X2_raise_6 E 8 (nI i) u := by
  have hpos := M_pos hm
  intro n
  induction n with
  | zero =>
    intro i u hn hi hx hB hR hvB hvR
    have ei : i = 16 := by omega
    subst ei
    have hf := exA_cfix hx hf0
    have e0 : gx_r u 8 0 = 17 := hf 8 0 (by decide)
    have e1 : gx_a u 18 = gx_a u0 18 := hx.2.2.2 18 (by decide)
    refine w_X2_raise_6 X hd hQ ⟨fun _ => ?_, fun q => absurd (nI_le (a := 16) (by omega) (by omega)) q⟩
    rw [e0]
    refine ⟨isO_x 8 2 (by decide), rfl, hf, isA17.r, rfl, by decide, hR, hB, ?_⟩
    intro u2 hx2 hP2 hv2
    have e2 : gx_a u2 18 = gx_a u0 18 := by rw [hx2.2.2.2 18 (by decide)]; exact e1
    refine ⟨rfl, exA_cfix hx2 hf, hP2, by rw [e2]; exact hM, by rw [e2]; exact hm, ?_, ?_⟩
    · rw [e2]
      exact up_lt hv2 (by rw [hvR]; exact Nat.mod_lt _ hpos) (vA_lt 32 hB)
    · intro u3 hx3 hR3 hv3
      refine hh u3 (exA_tr hx (exA_tr (exA_wk hx2 (by simp)) (exA_wk hx3 (by simp)))) hR3 ?_
      rw [hv3, hv2, e2, hvB, hvR, ← Nat.mul_mod, ← Nat.pow_succ]
  | succ n ih =>
    intro i u hn hi hx hB hR hvB hvR
    have hf := exA_cfix hx hf0
    have e0 : gx_r u 8 2 = 19 := hf 8 2 (by decide)
    have e1 : gx_a u 18 = gx_a u0 18 := hx.2.2.2 18 (by decide)
    refine w_X2_raise_6 X hd hQ ⟨fun q => absurd q (nI_ge (b := 16) (by omega) (by omega)), fun _ => ?_⟩
    rw [e0]
    refine ⟨isO_x 8 2 (by decide), rfl, hf, isA19.r, rfl, by decide, hR, hR, ?_⟩
    intro u2 hx2 hP2 hv2
    have e2 : gx_a u2 18 = gx_a u0 18 := by rw [hx2.2.2.2 18 (by decide)]; exact e1
    refine ⟨rfl, exA_cfix hx2 hf, hP2, by rw [e2]; exact hM, by rw [e2]; exact hm, ?_, ?_⟩
    · rw [e2]
      exact up_lt hv2 (by rw [hvR]; exact Nat.mod_lt _ hpos) (vA_lt 32 hR)
    · intro u3 hx3 hR3 hv3 x7 e7
      subst e7
      rw [nI_1]
      have e17 : gx_a u3 17 = gx_a u 17 := by rw [hx3.2.2.2 17 (by decide), hx2.2.2.2 17 (by decide)]
      refine ih (i + 1) u3 (by omega) (by omega) (exA_tr hx (exA_tr (exA_wk hx2 (by simp)) (exA_wk hx3 (by simp)))) (by rw [e17]; exact hB) hR3 (by rw [e17]; exact hvB) ?_
      rw [hv3, hv2, e2, hvR, ← Nat.mul_mod, pw_s]
theorem w_X2_raise {E : gx_E} (X : gx_X E cX2_raise 2 RX2 none) (hd : 4 ≤ ex_d E) {post : gx_S → Prop} (hQ : ex_Q E = va_Qv post (gx_B (ex_Z E)) (gx_A (ex_Z E))) {u : gx_S} {v0 : Nat} (h : S_X2_raise u v0 post) : gx_Wc E 2 0 [(0, .ref (ex_ad E v0))] [] u := by
  obtain ⟨rfl, hf, hB, hM, hm, hh⟩ := h
  refine w_X2_raise_0 X hd hQ ⟨isO_x 8 2 (by decide), rfl, hf, hB, hM, hm, ?_⟩
  intro u2 hx2 hB2 hR2 hvB hvR
  exact lp_X2_raise X hd hQ hf hM hm hh 16 0 u2 (by omega) (by omega) hx2 hB2 hR2 hvB (by rw [Nat.pow_zero, Nat.pow_one]; exact hvR)
theorem c_X2_raise {l : Launch} {Z : gx_Z} {u : gx_S} {v0 : Nat} {post : gx_S → Prop} (h : S_X2_raise u v0 post) : Met l yX2_raise (Cond.code yX2_raise cX2_raise 2 none :: gx_TB) (gx_rm 4) (gx_Pre Z u [.ref (Z.2.1 v0)]) (va_Qv post (gx_B Z) (gx_A Z)) 0 0 (gx_A Z) := by
  refine gx_met (by decide +kernel) (Nat.le_of_ble_eq_true rfl) ?_
  intro E X hZ hQ hD hL
  subst hZ
  exact w_X2_raise X (Nat.le_of_eq hD.symm) hQ h
-- write
def pB (a : Nat → Int32) : Nat → List Nat
  | 0 => []
  | k + 1 => pB a k ++ [dv (a (31 - k)) / 256] ++ [dv (a (31 - k)) % 256]
theorem pB_len (a : Nat → Int32) : ∀ k, (pB a k).length = 2 * k
  | 0 => rfl
  | k + 1 => by rw [pB, len_push, len_push, pB_len a k]; omega
theorem pB_cg {a b : Nat → Int32} (h : ∀ j, j < 32 → a j = b j) : ∀ k, pB a k = pB b k
  | 0 => rfl
  | k + 1 => by rw [pB, pB, pB_cg h k, h (31 - k) (by omega)]
def S_X2_write (u : gx_S) (v0 v1 : Nat) (post : gx_S → Prop) : Prop := v0 = 8 ∧ v1 = 2 ∧ cfix u ∧ okD (gx_a u 19) 32 ∧ ∃ O : List Nat, byL u 2 O ∧ byU u 2 (pB (gx_a u 19) 32) post
theorem lp_X2_write {E : gx_E} (X : gx_X E cX2_write 3 RX2 none) (hd : 1 ≤ ex_d E) {post : gx_S → Prop} (hQ : ex_Q E = va_Qv post (gx_B (ex_Z E)) (gx_A (ex_Z E))) {a : Nat → Int32} (ha : okD a 32) :
    ∀ (n k : Nat) (u : gx_S), 32 - k = n → k ≤ 32 → cfix u → (∀ j, j < 32 → gx_a u 19 j = a j) → byL u 2 (pB a k) → byU u 2 (pB a 32) post → J_X2_write_7 E 8 2 (nI n - 1) u := by
  intro n
  induction n with
  | zero =>
    intro k u hn hk hf hg hO hp
    have ek : k = 32 := by omega
    subst ek
    exact w_X2_write_7 X hd hQ ⟨fun _ => byU_self hO hp, fun q => absurd neg1 q⟩
  | succ n ih =>
    intro k u hn hk hf hg hO hp
    have en : n = 31 - k := by omega
    have ban := ha n (by omega)
    have r2 : gx_r u 2 0 = 10 := hf 2 0 (by decide)
    rw [nI_pred]
    refine w_X2_write_7 X hd hQ ⟨fun q => absurd q (nI_pos (by omega)), fun _ => ?_⟩
    rw [show gx_r u 8 2 = 19 from hf 8 2 (by decide), nI_clamp (by omega), hg n (by omega)]
    have e8 : ((a n).toUInt32 >>> ((8 : Int32).toUInt32 &&& Int32.toUInt32 31)).toInt32.toBitVec.toNat = dv (a n) / 2 ^ 8 := ushr_nat (a n) (k := 8) (by omega)
    refine ⟨isO_x 8 2 (by decide), isA19.r, in32 rfl (by omega), hO.1, i_X0_add hO (by rw [pB_len]; omega) (c := dv (a n) / 256) (by omega) (by rw [byte_of, e8, show dv (a n) / 2 ^ 8 % 256 = dv (a n) / 256 by omega]) (fun f1 hf1 => ?_)⟩
    have hO1 := byL_push hO hf1 (by rw [pB_len]; omega)
    rw [byW_r, show gx_r u 8 2 = 19 from hf 8 2 (by decide), byW_a, r2, if_neg (by decide), hg n (by omega)]
    refine ⟨isA19.r, in32 rfl (by omega), i_X0_add hO1 (by rw [len_push, pB_len]; omega) (c := dv (a n) % 256) (by omega) (byte_of (a n)) (fun f2 hf2 => ?_)⟩
    intro x9 e9
    rw [← Int32.sub_eq_add_neg] at e9
    subst e9
    have hO2 := byL_push hO1 hf2 (by rw [len_push, pB_len]; omega)
    have epb : pB a k ++ [dv (a n) / 256] ++ [dv (a n) % 256] = pB a (k + 1) := by rw [pB, ← en]
    rw [epb] at hO2
    refine ih (k + 1) _ (by omega) (by omega) (fun o k h => hf o k h) (fun j hj => ?_) ?_ (byU_W (byU_W hp))
    · rw [byW_a, byW_r, r2, if_neg (by decide), byW_a, r2, if_neg (by decide)]; exact hg j hj
    · rw [epb]; exact hO2
theorem w_X2_write {E : gx_E} (X : gx_X E cX2_write 3 RX2 none) (hd : 1 ≤ ex_d E) {post : gx_S → Prop} (hQ : ex_Q E = va_Qv post (gx_B (ex_Z E)) (gx_A (ex_Z E))) {u : gx_S} {v0 v1 : Nat} (h : S_X2_write u v0 v1 post) : gx_Wc E 3 0 [(0, .ref (ex_ad E v0)), (1, .ref (ex_ad E v1))] [] u := by
  obtain ⟨rfl, rfl, hf, ha, O, hO, hp⟩ := h
  refine w_X2_write_0 X hd hQ ⟨hO.1, i_X0_clear hO (fun f hf2 => ?_)⟩
  refine lp_X2_write X hd hQ ha 32 0 _ (by omega) (by omega) (fun o k h => hf o k h) (fun j hj => ?_) (byL_W hO hf2 (by simp)) (byU_W hp)
  rw [byW_a, show gx_r u 2 0 = 10 from hf 2 0 (by decide), if_neg (by decide)]
theorem c_X2_write {l : Launch} {Z : gx_Z} {u : gx_S} {v0 : Nat} {v1 : Nat} {post : gx_S → Prop} (h : S_X2_write u v0 v1 post) : Met l yX2_write (Cond.code yX2_write cX2_write 3 none :: gx_TB) (gx_rm 1) (gx_Pre Z u [.ref (Z.2.1 v0), .ref (Z.2.1 v1)]) (va_Qv post (gx_B Z) (gx_A Z)) 0 0 (gx_A Z) := by
  refine gx_met (by decide +kernel) (Nat.le_of_ble_eq_true rfl) ?_
  intro E X hZ hQ hD hL
  subst hZ
  exact w_X2_write X (Nat.le_of_eq hD.symm) hQ h
-- PlainSeal.power()I
theorem dX6_power_0 : decode cX6_power 0 = .ok (.iconst (-1), 1) := by decide +kernel
theorem dX6_power_1 : decode cX6_power 1 = .ok (.istore_n 1, 1) := by decide +kernel
theorem dX6_power_2 : decode cX6_power 2 = .ok (.aload_n 0, 1) := by decide +kernel
theorem dX6_power_3 : decode cX6_power 3 = .ok (.getfield 43, 3) := by decide +kernel
theorem dX6_power_6 : decode cX6_power 6 = .ok (.aload_n 0, 1) := by decide +kernel
theorem dX6_power_7 : decode cX6_power 7 = .ok (.getfield 10, 3) := by decide +kernel
theorem dX6_power_10 : decode cX6_power 10 = .ok (.invokevirtual 105, 3) := by decide +kernel
theorem dX6_power_13 : decode cX6_power 13 = .ok (.ifCond .eq 40, 3) := by decide +kernel
theorem dX6_power_16 : decode cX6_power 16 = .ok (.aload_n 0, 1) := by decide +kernel
theorem dX6_power_17 : decode cX6_power 17 = .ok (.getfield 43, 3) := by decide +kernel
theorem dX6_power_20 : decode cX6_power 20 = .ok (.aload_n 0, 1) := by decide +kernel
theorem dX6_power_21 : decode cX6_power 21 = .ok (.getfield 10, 3) := by decide +kernel
theorem dX6_power_24 : decode cX6_power 24 = .ok (.invokevirtual 109, 3) := by decide +kernel
theorem dX6_power_27 : decode cX6_power 27 = .ok (.aload_n 0, 1) := by decide +kernel
theorem dX6_power_28 : decode cX6_power 28 = .ok (.getfield 43, 3) := by decide +kernel
theorem dX6_power_31 : decode cX6_power 31 = .ok (.invokevirtual 113, 3) := by decide +kernel
theorem dX6_power_34 : decode cX6_power 34 = .ok (.aload_n 0, 1) := by decide +kernel
theorem dX6_power_35 : decode cX6_power 35 = .ok (.getfield 43, 3) := by decide +kernel
theorem dX6_power_38 : decode cX6_power 38 = .ok (.aload_n 0, 1) := by decide +kernel
theorem dX6_power_39 : decode cX6_power 39 = .ok (.getfield 16, 3) := by decide +kernel
theorem dX6_power_42 : decode cX6_power 42 = .ok (.invokevirtual 116, 3) := by decide +kernel
theorem dX6_power_45 : decode cX6_power 45 = .ok (.aload_n 0, 1) := by decide +kernel
theorem dX6_power_46 : decode cX6_power 46 = .ok (.getfield 16, 3) := by decide +kernel
theorem dX6_power_49 : decode cX6_power 49 = .ok (.invokevirtual 47, 3) := by decide +kernel
theorem dX6_power_52 : decode cX6_power 52 = .ok (.istore_n 1, 1) := by decide +kernel
theorem dX6_power_53 : decode cX6_power 53 = .ok (.aload_n 0, 1) := by decide +kernel
theorem dX6_power_54 : decode cX6_power 54 = .ok (.getfield 10, 3) := by decide +kernel
theorem dX6_power_57 : decode cX6_power 57 = .ok (.invokevirtual 62, 3) := by decide +kernel
theorem dX6_power_60 : decode cX6_power 60 = .ok (.iload_n 1, 1) := by decide +kernel
theorem dX6_power_61 : decode cX6_power 61 = .ok (.ireturn, 1) := by decide +kernel
theorem hyX6_power : yX6_power.cls ≠ "java/lang/invoke/MethodHandle" ∧ yX6_power.cls ≠ "java/lang/invoke/VarHandle" ∧ (parseMethodDescriptor yX6_power.desc).map (fun d => d.parameters.length) = some 0 := by decide +kernel
def S_X6_power (u : gx_S) (v0 : Nat) (post : Int32 → gx_S → Prop) : Prop := (gx_isO v0 5 ∧ (gx_isO (gx_r u v0 5) 2 ∧ S_X2_canTake u (gx_r u v0 5) (gx_r u v0 0) (fun (r4 : Int32) (u3 : gx_S) => ((r4 = 0 → (gx_isO (gx_r u3 v0 0) 0 ∧ S_X0_clear u3 (gx_r u3 v0 0) (fun (u6 : gx_S) => post (-1 : Int32) u6))) ∧ (¬ r4 = 0 → (gx_isO (gx_r u3 v0 5) 2 ∧ S_X2_take u3 (gx_r u3 v0 5) (gx_r u3 v0 0) (fun (u8 : gx_S) => (gx_isO (gx_r u8 v0 5) 2 ∧ S_X2_raise u8 (gx_r u8 v0 5) (fun (u10 : gx_S) => (gx_isO (gx_r u10 v0 5) 2 ∧ S_X2_write u10 (gx_r u10 v0 5) (gx_r u10 v0 1) (fun (u12 : gx_S) => (gx_isO (gx_r u12 v0 1) 0 ∧ S_X0_size u12 (gx_r u12 v0 1) (fun (r15 : Int32) (u14 : gx_S) => (gx_isO (gx_r u14 v0 0) 0 ∧ S_X0_clear u14 (gx_r u14 v0 0) (fun (u17 : gx_S) => post r15 u17)))))))))))))))
set_option maxHeartbeats 4000000 in
set_option maxRecDepth 100000 in
theorem w_X6_power {E : gx_E} (X : gx_X E cX6_power 2 RX6 (some .int)) (hd : 5 ≤ ex_d E) {post : Int32 → gx_S → Prop} (hQ : ex_Q E = va_Qi post (gx_B (ex_Z E)) (gx_A (ex_Z E))) {u : gx_S} {v0 : Nat} (h : S_X6_power u v0 post) : gx_Wc E 2 0 [(0, .ref (ex_ad E v0))] [] u := by
  unfold S_X6_power at h
  refine gx_iconst X (v := -1) dX6_power_0 (by decide) ?_
  refine gx_istore_n X (lv' := [(1, .int (-1 : Int32)), (0, .ref (ex_ad E v0))]) dX6_power_1 rfl (by decide) rfl ?_
  refine gx_aload_n X (j := 1) dX6_power_2 rfl rfl ?_
  obtain ⟨k1, h⟩ := h
  refine gx_get X k1 rfl iwX6 5 (by decide) mw_109 (v := .ref (ex_ad E (gx_r u v0 5))) rfl dX6_power_3 ?_
  refine gx_aload_n X (j := 1) dX6_power_6 rfl rfl ?_
  refine gx_get X k1 rfl iwX6 0 (by decide) mw_104 (v := .ref (ex_ad E (gx_r u v0 0))) rfl dX6_power_7 ?_
  obtain ⟨k2, h⟩ := h
  refine gx_ki (gx_rV X (c_X2_canTake h) (Nat.le_trans (by decide) hd) (Nat.le_trans (by decide) (Nat.mul_le_mul_left 40 hd)) k2 rfl mw_370 mw_371 mw_372 mw_6 mw_373 hyX2_canTake (As := [.ref (ex_ad E (gx_r u v0 0))]) (rest := []) rfl rfl (Nat.le_of_ble_eq_true rfl) dX6_power_10) (fun r4 u3 h => ?_)
  refine gx_if_eq X (tgt := 53) dX6_power_13 (by decide) (fun c18 => ?_) (fun c18 => ?_)
  · replace h := h.1 c18
    refine gx_aload_n X (j := 1) dX6_power_53 rfl rfl ?_
    refine gx_get X k1 rfl iwX6 0 (by decide) mw_104 (v := .ref (ex_ad E (gx_r u3 v0 0))) rfl dX6_power_54 ?_
    obtain ⟨k5, h⟩ := h
    refine gx_kv (gx_rV X (c_X0_clear h) (Nat.le_trans (by decide) hd) (Nat.le_trans (by decide) (Nat.mul_le_mul_left 40 hd)) k5 rfl mw_200 mw_192 mw_193 mw_2 mw_194 hyX0_clear (As := []) (rest := []) rfl rfl (Nat.le_of_ble_eq_true rfl) dX6_power_57) (fun u6 h => ?_)
    refine gx_iload_n X (j := 0) dX6_power_60 rfl rfl ?_
    exact gx_iret X hQ h dX6_power_61
  · replace h := h.2 c18
    refine gx_aload_n X (j := 1) dX6_power_16 rfl rfl ?_
    refine gx_get X k1 rfl iwX6 5 (by decide) mw_109 (v := .ref (ex_ad E (gx_r u3 v0 5))) rfl dX6_power_17 ?_
    refine gx_aload_n X (j := 1) dX6_power_20 rfl rfl ?_
    refine gx_get X k1 rfl iwX6 0 (by decide) mw_104 (v := .ref (ex_ad E (gx_r u3 v0 0))) rfl dX6_power_21 ?_
    obtain ⟨k7, h⟩ := h
    refine gx_kv (gx_rV X (c_X2_take h) (Nat.le_trans (by decide) hd) (Nat.le_trans (by decide) (Nat.mul_le_mul_left 40 hd)) k7 rfl mw_376 mw_377 mw_378 mw_6 mw_379 hyX2_take (As := [.ref (ex_ad E (gx_r u3 v0 0))]) (rest := []) rfl rfl (Nat.le_of_ble_eq_true rfl) dX6_power_24) (fun u8 h => ?_)
    refine gx_aload_n X (j := 1) dX6_power_27 rfl rfl ?_
    refine gx_get X k1 rfl iwX6 5 (by decide) mw_109 (v := .ref (ex_ad E (gx_r u8 v0 5))) rfl dX6_power_28 ?_
    obtain ⟨k9, h⟩ := h
    refine gx_kv (gx_rV X (c_X2_raise h) (Nat.le_trans (by decide) hd) (Nat.le_trans (by decide) (Nat.mul_le_mul_left 40 hd)) k9 rfl mw_383 mw_384 mw_385 mw_6 mw_386 hyX2_raise (As := []) (rest := []) rfl rfl (Nat.le_of_ble_eq_true rfl) dX6_power_31) (fun u10 h => ?_)
    refine gx_aload_n X (j := 1) dX6_power_34 rfl rfl ?_
    refine gx_get X k1 rfl iwX6 5 (by decide) mw_109 (v := .ref (ex_ad E (gx_r u10 v0 5))) rfl dX6_power_35 ?_
    refine gx_aload_n X (j := 1) dX6_power_38 rfl rfl ?_
    refine gx_get X k1 rfl iwX6 1 (by decide) mw_105 (v := .ref (ex_ad E (gx_r u10 v0 1))) rfl dX6_power_39 ?_
    obtain ⟨k11, h⟩ := h
    refine gx_kv (gx_rV X (c_X2_write h) (Nat.le_trans (by decide) hd) (Nat.le_trans (by decide) (Nat.mul_le_mul_left 40 hd)) k11 rfl mw_416 mw_417 mw_418 mw_6 mw_419 hyX2_write (As := [.ref (ex_ad E (gx_r u10 v0 1))]) (rest := []) rfl rfl (Nat.le_of_ble_eq_true rfl) dX6_power_42) (fun u12 h => ?_)
    refine gx_aload_n X (j := 1) dX6_power_45 rfl rfl ?_
    refine gx_get X k1 rfl iwX6 1 (by decide) mw_105 (v := .ref (ex_ad E (gx_r u12 v0 1))) rfl dX6_power_46 ?_
    obtain ⟨k13, h⟩ := h
    refine gx_ki (gx_rV X (c_X0_size h) (Nat.le_trans (by decide) hd) (Nat.le_trans (by decide) (Nat.mul_le_mul_left 40 hd)) k13 rfl mw_127 mw_128 mw_129 mw_2 mw_130 hyX0_size (As := []) (rest := []) rfl rfl (Nat.le_of_ble_eq_true rfl) dX6_power_49) (fun r15 u14 h => ?_)
    refine gx_istore_n X (lv' := [(1, .int r15), (0, .ref (ex_ad E v0))]) dX6_power_52 rfl (by decide) rfl ?_
    refine gx_aload_n X (j := 1) dX6_power_53 rfl rfl ?_
    refine gx_get X k1 rfl iwX6 0 (by decide) mw_104 (v := .ref (ex_ad E (gx_r u14 v0 0))) rfl dX6_power_54 ?_
    obtain ⟨k16, h⟩ := h
    refine gx_kv (gx_rV X (c_X0_clear h) (Nat.le_trans (by decide) hd) (Nat.le_trans (by decide) (Nat.mul_le_mul_left 40 hd)) k16 rfl mw_200 mw_192 mw_193 mw_2 mw_194 hyX0_clear (As := []) (rest := []) rfl rfl (Nat.le_of_ble_eq_true rfl) dX6_power_57) (fun u17 h => ?_)
    refine gx_iload_n X (j := 0) dX6_power_60 rfl rfl ?_
    exact gx_iret X hQ h dX6_power_61
theorem c_X6_power {l : Launch} {Z : gx_Z} {u : gx_S} {v0 : Nat} {post : Int32 → gx_S → Prop} (h : S_X6_power u v0 post) : Met l yX6_power (Cond.code yX6_power cX6_power 2 (some .int) :: gx_TB) (gx_rm 5) (gx_Pre Z u [.ref (Z.2.1 v0)]) (va_Qi post (gx_B Z) (gx_A Z)) 0 0 (gx_A Z) := by
  refine gx_met (by decide +kernel) (Nat.le_of_ble_eq_true rfl) ?_
  intro E X hZ hQ hD hL
  subst hZ
  exact w_X6_power X (Nat.le_of_eq hD.symm) hQ h
theorem okD_dgT {T : List Nat} (h : okL T) (p : Nat) (hp : p + 64 ≤ T.length) : ∀ i, i < 32 → dv (dgT T p i) = ch T (p + 62 - 2 * i) * 256 + ch T (p + 63 - 2 * i) ∧ dv (dgT T p i) < 65536 := by
  intro i hi
  have c1 : ch T (p + 62 - 2 * i) < 256 := ch_lt h (by omega)
  have c2 : ch T (p + 63 - 2 * i) < 256 := ch_lt h (by omega)
  have e : dv (dgT T p i) = ch T (p + 62 - 2 * i) * 256 + ch T (p + 63 - 2 * i) := dv_nI (by omega)
  exact ⟨e, by rw [e]; omega⟩
theorem t_power {u : gx_S} {T O M G : List Nat} {k : Nat} {post : Int32 → gx_S → Prop} (h : cS u T O M k G) (h1 : canT T = true → ∀ r : Nat → Int32, okD r 32 → vA r 32 = vA (dgT T 0) 32 ^ 65537 % vA (dgT T 64) 32 → ∀ v, exC u v → cS v [] (pB r 32) M k G → post 64 v) (h2 : canT T = false → ∀ v, exC u v → cS v [] O M k G → post (-1) v) : S_X6_power u 0 post := by
  have c0 := h.1
  unfold S_X6_power
  rw [show gx_r u 0 5 = 8 from c0 0 5 (by decide), show gx_r u 0 0 = 1 from c0 0 0 (by decide)]
  refine ⟨isO_x 0 5 (by decide), isO_x 8 2 (by decide), i_X2_canTake h.2.1 ⟨fun q => ?_, fun q => ?_⟩⟩
  · rw [b2_0] at q
    rw [show gx_r u 0 0 = 1 from c0 0 0 (by decide)]
    exact ⟨h.2.1.1, t_clear h (fun v hv hs => h2 q v hv hs)⟩
  · have q2 := b2_n0 q
    have hT := h.2.1.2.2.2.2.2.1
    have hc : T.length = 128 ∧ 128 ≤ ch T 64 ∧ ch T 127 % 2 = 1 := by simpa [canT] using q2
    rw [show gx_r u 0 5 = 8 from c0 0 5 (by decide), show gx_r u 0 0 = 1 from c0 0 0 (by decide)]
    refine ⟨isO_x 8 2 (by decide), i_X2_take c0 h.2.1 hc.1 (fun u8 hx8 hb8 hp8 => ?_)⟩
    have s8 := cS_x h hx8 (by decide)
    have ob := okD_dgT hT 0 (by omega)
    have op := okD_dgT hT 64 (by omega)
    rw [show gx_r u8 0 5 = 8 from s8.1.1 0 5 (by decide)]
    refine ⟨isO_x 8 2 (by decide), rfl, s8.1.1, fun i hi => by rw [hb8 i hi]; exact (ob i hi).2, fun i hi => by rw [hp8 i hi]; exact (op i hi).2, ?_, ?_⟩
    · rw [hp8 31 (by omega), (op 31 (by omega)).1]
      have : (64 + 62 - 2 * 31) = 64 := by omega
      rw [this]
      omega
    · intro u10 hx10 hok10 hv10
      rw [vA_cg 32 hb8, vA_cg 32 hp8] at hv10
      have s10 := cS_x s8.1 hx10 (by decide)
      rw [show gx_r u10 0 5 = 8 from s10.1.1 0 5 (by decide), show gx_r u10 0 1 = 2 from s10.1.1 0 1 (by decide)]
      refine ⟨isO_x 8 2 (by decide), rfl, rfl, s10.1.1, hok10, O, s10.1.2.2.1, fun f hf => ?_⟩
      have hl : (pB (gx_a u10 19) 32).length = 64 := pB_len _ 32
      have s := cS_o s10.1 hf (by omega)
      try dsimp only
      rw [show gx_r (byW u10 2 f (pB (gx_a u10 19) 32).length) 0 1 = 2 from s10.1.1 0 1 (by decide)]
      refine ⟨h.2.2.1.1, i_X0_size s.1.2.2.1 ?_⟩
      rw [show gx_r (byW u10 2 f (pB (gx_a u10 19) 32).length) 0 0 = 1 from s10.1.1 0 0 (by decide)]
      refine ⟨h.2.1.1, t_clear s.1 (fun v hv hs => ?_)⟩
      rw [hl]
      exact h1 q2 (gx_a u10 19) hok10 hv10 v (exC_tr s8.2 (exC_tr s10.2 (exC_tr s.2 hv))) hs
end
