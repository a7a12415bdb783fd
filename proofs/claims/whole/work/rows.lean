section
-- ===== PART A: goes FIRST, ahead of the names: the tables' words, and 'selects' of the private methods out of them =====
/-- a private method of a class that the tables say can be made, by its rows of tables_1 -/
def lw_okq (q : MethodName × Nat) : Prop := (q.1.cls ≠ "java/lang/invoke/MethodHandle" ∧ q.1.cls ≠ "java/lang/invoke/VarHandle") ∧ Cond.instantiable q.1.cls q.2 ∈ tables_1 ∧ Cond.privateMethod q.1 ∈ tables_1 ∧ Cond.instanceMethod q.1 ∈ tables_1
theorem lw_p0 : lw_okq (⟨"SignCategories", "topLevel", "()LSignCategories$Level;"⟩, 10) := ⟨⟨by decide +kernel, by decide +kernel⟩, List.mem_of_getElem? (i := 17) (by decide +kernel), List.mem_of_getElem? (i := 285) (by decide +kernel), List.mem_of_getElem? (i := 286) (by decide +kernel)⟩
theorem lw_p1 : lw_okq (⟨"SignCategories", "refusalAtOnce", "()I"⟩, 10) := ⟨⟨by decide +kernel, by decide +kernel⟩, List.mem_of_getElem? (i := 17) (by decide +kernel), List.mem_of_getElem? (i := 293) (by decide +kernel), List.mem_of_getElem? (i := 294) (by decide +kernel)⟩
theorem lw_p2 : lw_okq (⟨"SignCategories", "levelWithLine", "()LSignCategories$Level;"⟩, 10) := ⟨⟨by decide +kernel, by decide +kernel⟩, List.mem_of_getElem? (i := 17) (by decide +kernel), List.mem_of_getElem? (i := 302) (by decide +kernel), List.mem_of_getElem? (i := 303) (by decide +kernel)⟩
theorem lw_p3 : lw_okq (⟨"SignCategories", "readToken", "(LSignCategories$Level;)I"⟩, 10) := ⟨⟨by decide +kernel, by decide +kernel⟩, List.mem_of_getElem? (i := 17) (by decide +kernel), List.mem_of_getElem? (i := 323) (by decide +kernel), List.mem_of_getElem? (i := 324) (by decide +kernel)⟩
theorem lw_p4 : lw_okq (⟨"SignCategories", "readName", "(LSignCategories$Level;I)I"⟩, 10) := ⟨⟨by decide +kernel, by decide +kernel⟩, List.mem_of_getElem? (i := 17) (by decide +kernel), List.mem_of_getElem? (i := 351) (by decide +kernel), List.mem_of_getElem? (i := 352) (by decide +kernel)⟩
theorem lw_p5 : lw_okq (⟨"SignCategories", "draftLetters", "(LSignCategories$Level;)V"⟩, 10) := ⟨⟨by decide +kernel, by decide +kernel⟩, List.mem_of_getElem? (i := 17) (by decide +kernel), List.mem_of_getElem? (i := 359) (by decide +kernel), List.mem_of_getElem? (i := 360) (by decide +kernel)⟩
theorem lw_p6 : lw_okq (⟨"SignCategories", "readLineEnd", "(LSignCategories$Level;I)I"⟩, 10) := ⟨⟨by decide +kernel, by decide +kernel⟩, List.mem_of_getElem? (i := 17) (by decide +kernel), List.mem_of_getElem? (i := 402) (by decide +kernel), List.mem_of_getElem? (i := 403) (by decide +kernel)⟩
theorem lw_p7 : lw_okq (⟨"SignCategories", "readBlank", "(LSignCategories$Level;I)I"⟩, 10) := ⟨⟨by decide +kernel, by decide +kernel⟩, List.mem_of_getElem? (i := 17) (by decide +kernel), List.mem_of_getElem? (i := 406) (by decide +kernel), List.mem_of_getElem? (i := 407) (by decide +kernel)⟩
theorem lw_p8 : lw_okq (⟨"SignCategories", "readActive", "(LSignCategories$Level;II)I"⟩, 10) := ⟨⟨by decide +kernel, by decide +kernel⟩, List.mem_of_getElem? (i := 17) (by decide +kernel), List.mem_of_getElem? (i := 410) (by decide +kernel), List.mem_of_getElem? (i := 411) (by decide +kernel)⟩
theorem lw_p9 : lw_okq (⟨"SignCategories", "signsLeft", "()I"⟩, 10) := ⟨⟨by decide +kernel, by decide +kernel⟩, List.mem_of_getElem? (i := 17) (by decide +kernel), List.mem_of_getElem? (i := 447) (by decide +kernel), List.mem_of_getElem? (i := 448) (by decide +kernel)⟩
theorem lw_p10 : lw_okq (⟨"SignCategories", "tokensHaveNames", "()Z"⟩, 10) := ⟨⟨by decide +kernel, by decide +kernel⟩, List.mem_of_getElem? (i := 17) (by decide +kernel), List.mem_of_getElem? (i := 463) (by decide +kernel), List.mem_of_getElem? (i := 464) (by decide +kernel)⟩
theorem lw_p11 : lw_okq (⟨"java/lang/Throwable", "fillInStackTrace", "(I)Ljava/lang/Throwable;"⟩, 6) := ⟨⟨by decide +kernel, by decide +kernel⟩, List.mem_of_getElem? (i := 507) (by decide +kernel), List.mem_of_getElem? (i := 505) (by decide +kernel), List.mem_of_getElem? (i := 506) (by decide +kernel)⟩
theorem lw_p12 : lw_okq (⟨"SignCategoriesModel", "isFile", "(I)Z"⟩, 30) := ⟨⟨by decide +kernel, by decide +kernel⟩, List.mem_of_getElem? (i := 561) (by decide +kernel), List.mem_of_getElem? (i := 689) (by decide +kernel), List.mem_of_getElem? (i := 690) (by decide +kernel)⟩
theorem lw_p13 : lw_okq (⟨"SignCategoriesModel", "hasLine", "()Z"⟩, 30) := ⟨⟨by decide +kernel, by decide +kernel⟩, List.mem_of_getElem? (i := 561) (by decide +kernel), List.mem_of_getElem? (i := 710) (by decide +kernel), List.mem_of_getElem? (i := 711) (by decide +kernel)⟩
theorem lw_p14 : lw_okq (⟨"SignCategoriesModel", "begin", "(II)V"⟩, 30) := ⟨⟨by decide +kernel, by decide +kernel⟩, List.mem_of_getElem? (i := 561) (by decide +kernel), List.mem_of_getElem? (i := 714) (by decide +kernel), List.mem_of_getElem? (i := 715) (by decide +kernel)⟩
theorem lw_p15 : lw_okq (⟨"SignCategoriesModel", "give", "()I"⟩, 30) := ⟨⟨by decide +kernel, by decide +kernel⟩, List.mem_of_getElem? (i := 561) (by decide +kernel), List.mem_of_getElem? (i := 718) (by decide +kernel), List.mem_of_getElem? (i := 719) (by decide +kernel)⟩
def lw_privs_1 : List (MethodName × Nat) := [(⟨"SignCategories", "topLevel", "()LSignCategories$Level;"⟩, 10), (⟨"SignCategories", "refusalAtOnce", "()I"⟩, 10), (⟨"SignCategories", "levelWithLine", "()LSignCategories$Level;"⟩, 10), (⟨"SignCategories", "readToken", "(LSignCategories$Level;)I"⟩, 10), (⟨"SignCategories", "readName", "(LSignCategories$Level;I)I"⟩, 10), (⟨"SignCategories", "draftLetters", "(LSignCategories$Level;)V"⟩, 10), (⟨"SignCategories", "readLineEnd", "(LSignCategories$Level;I)I"⟩, 10), (⟨"SignCategories", "readBlank", "(LSignCategories$Level;I)I"⟩, 10), (⟨"SignCategories", "readActive", "(LSignCategories$Level;II)I"⟩, 10), (⟨"SignCategories", "signsLeft", "()I"⟩, 10), (⟨"SignCategories", "tokensHaveNames", "()Z"⟩, 10), (⟨"java/lang/Throwable", "fillInStackTrace", "(I)Ljava/lang/Throwable;"⟩, 6), (⟨"SignCategoriesModel", "isFile", "(I)Z"⟩, 30), (⟨"SignCategoriesModel", "hasLine", "()Z"⟩, 30), (⟨"SignCategoriesModel", "begin", "(II)V"⟩, 30), (⟨"SignCategoriesModel", "give", "()I"⟩, 30)]
theorem lw_r1 : ∀ q ∈ lw_privs_1, lw_okq q := List.forall_mem_cons.mpr ⟨lw_p0, List.forall_mem_cons.mpr ⟨lw_p1, List.forall_mem_cons.mpr ⟨lw_p2, List.forall_mem_cons.mpr ⟨lw_p3, List.forall_mem_cons.mpr ⟨lw_p4, List.forall_mem_cons.mpr ⟨lw_p5, List.forall_mem_cons.mpr ⟨lw_p6, List.forall_mem_cons.mpr ⟨lw_p7, List.forall_mem_cons.mpr ⟨lw_p8, List.forall_mem_cons.mpr ⟨lw_p9, List.forall_mem_cons.mpr ⟨lw_p10, List.forall_mem_cons.mpr ⟨lw_p11, List.forall_mem_cons.mpr ⟨lw_p12, List.forall_mem_cons.mpr ⟨lw_p13, List.forall_mem_cons.mpr ⟨lw_p14, List.forall_mem_cons.mpr ⟨lw_p15, fun _ h => absurd h List.not_mem_nil⟩⟩⟩⟩⟩⟩⟩⟩⟩⟩⟩⟩⟩⟩⟩⟩
theorem lw_p16 : lw_okq (⟨"SignCategoriesModel", "see", "(I)V"⟩, 30) := ⟨⟨by decide +kernel, by decide +kernel⟩, List.mem_of_getElem? (i := 561) (by decide +kernel), List.mem_of_getElem? (i := 722) (by decide +kernel), List.mem_of_getElem? (i := 723) (by decide +kernel)⟩
theorem lw_p17 : lw_okq (⟨"SignCategoriesModel", "standing", "(I)I"⟩, 30) := ⟨⟨by decide +kernel, by decide +kernel⟩, List.mem_of_getElem? (i := 561) (by decide +kernel), List.mem_of_getElem? (i := 726) (by decide +kernel), List.mem_of_getElem? (i := 727) (by decide +kernel)⟩
theorem lw_p18 : lw_okq (⟨"SignCategoriesModel", "readWord", "(I)I"⟩, 30) := ⟨⟨by decide +kernel, by decide +kernel⟩, List.mem_of_getElem? (i := 561) (by decide +kernel), List.mem_of_getElem? (i := 736) (by decide +kernel), List.mem_of_getElem? (i := 737) (by decide +kernel)⟩
theorem lw_p19 : lw_okq (⟨"SignCategoriesModel", "addToWord", "(I)V"⟩, 30) := ⟨⟨by decide +kernel, by decide +kernel⟩, List.mem_of_getElem? (i := 561) (by decide +kernel), List.mem_of_getElem? (i := 740) (by decide +kernel), List.mem_of_getElem? (i := 741) (by decide +kernel)⟩
theorem lw_p20 : lw_okq (⟨"SignCategoriesModel", "tell", "(II)V"⟩, 30) := ⟨⟨by decide +kernel, by decide +kernel⟩, List.mem_of_getElem? (i := 561) (by decide +kernel), List.mem_of_getElem? (i := 744) (by decide +kernel), List.mem_of_getElem? (i := 745) (by decide +kernel)⟩
theorem lw_p21 : lw_okq (⟨"SignCategoriesModel", "nameOfWord", "()I"⟩, 30) := ⟨⟨by decide +kernel, by decide +kernel⟩, List.mem_of_getElem? (i := 561) (by decide +kernel), List.mem_of_getElem? (i := 748) (by decide +kernel), List.mem_of_getElem? (i := 749) (by decide +kernel)⟩
theorem lw_p22 : lw_okq (⟨"SignCategoriesModel", "keep", "(IIII)I"⟩, 30) := ⟨⟨by decide +kernel, by decide +kernel⟩, List.mem_of_getElem? (i := 561) (by decide +kernel), List.mem_of_getElem? (i := 752) (by decide +kernel), List.mem_of_getElem? (i := 753) (by decide +kernel)⟩
def lw_privs_2 : List (MethodName × Nat) := [(⟨"SignCategoriesModel", "see", "(I)V"⟩, 30), (⟨"SignCategoriesModel", "standing", "(I)I"⟩, 30), (⟨"SignCategoriesModel", "readWord", "(I)I"⟩, 30), (⟨"SignCategoriesModel", "addToWord", "(I)V"⟩, 30), (⟨"SignCategoriesModel", "tell", "(II)V"⟩, 30), (⟨"SignCategoriesModel", "nameOfWord", "()I"⟩, 30), (⟨"SignCategoriesModel", "keep", "(IIII)I"⟩, 30)]
theorem lw_r2 : ∀ q ∈ lw_privs_2, lw_okq q := List.forall_mem_cons.mpr ⟨lw_p16, List.forall_mem_cons.mpr ⟨lw_p17, List.forall_mem_cons.mpr ⟨lw_p18, List.forall_mem_cons.mpr ⟨lw_p19, List.forall_mem_cons.mpr ⟨lw_p20, List.forall_mem_cons.mpr ⟨lw_p21, List.forall_mem_cons.mpr ⟨lw_p22, fun _ h => absurd h List.not_mem_nil⟩⟩⟩⟩⟩⟩⟩
def lw_privs : List (MethodName × Nat) := lw_privs_1 ++ (lw_privs_2)
def lw_tbl : List Cond := k2_sels lw_privs ++ tables_1
theorem lw_privs_ok : ∀ q ∈ lw_privs, lw_okq q := by
  show ∀ q ∈ lw_privs_1 ++ (lw_privs_2), lw_okq q
  exact List.forall_mem_append.mpr ⟨lw_r1, lw_r2⟩
-- ===== end of PART A; then your names; then what follows =====
end
section
def RX0 : String := "SignCategories$CategoryTable"
def TX0 : u_T := fun k => match k with
  | 0 => ("SignCategories$CategoryTable", "now", "[I", true)
  | 1 => ("SignCategories$CategoryTable", "before", "[I", true)
  | _ => ("SignCategories$CategoryTable", "groups", "I", false)
def tyX0 : Nat → FieldType := fun k => match k with
  | 0 => .array .int
  | 1 => .array .int
  | _ => .int
abbrev wsX00 : List Cond := u_ws RX0 TX0 3
theorem nmX0 : ∀ a, a < 3 → ∀ b, b < 3 → a ≠ b → (TX0 a).2.1 ≠ (TX0 b).2.1 := by decide +kernel
theorem tyX0_ok : ∀ k, k < 3 → parseFieldDescriptor (TX0 k).2.2.1 = some (tyX0 k) := by decide +kernel
abbrev cX0_init : ByteArray := prog_2_method_1_code
def yX0_init : MethodName := ⟨RX0, "<init>", "()V"⟩
abbrev cX0_isLatinLetter : ByteArray := prog_2_method_2_code
def yX0_isLatinLetter : MethodName := ⟨RX0, "isLatinLetter", "(I)Z"⟩
abbrev cX0_at : ByteArray := prog_2_method_3_code
def yX0_at : MethodName := ⟨RX0, "at", "(I)I"⟩
abbrev cX0_setHere : ByteArray := prog_2_method_4_code
def yX0_setHere : MethodName := ⟨RX0, "setHere", "(II)V"⟩
abbrev cX0_setEverywhere : ByteArray := prog_2_method_5_code
def yX0_setEverywhere : MethodName := ⟨RX0, "setEverywhere", "(II)V"⟩
abbrev cX0_beginGroup : ByteArray := prog_2_method_6_code
def yX0_beginGroup : MethodName := ⟨RX0, "beginGroup", "()Z"⟩
abbrev cX0_endGroup : ByteArray := prog_2_method_7_code
def yX0_endGroup : MethodName := ⟨RX0, "endGroup", "()Z"⟩
def RX1 : String := "SignCategories$Level"
def TX1 : u_T := fun k => match k with
  | 0 => ("SignCategories$Level", "signs", "[I", true)
  | 1 => ("SignCategories$Level", "file", "I", false)
  | 2 => ("SignCategories$Level", "begun", "I", false)
  | 3 => ("SignCategories$Level", "toEnd", "Z", false)
  | 4 => ("SignCategories$Level", "atHand", "Z", false)
  | 5 => ("SignCategories$Level", "length", "I", false)
  | 6 => ("SignCategories$Level", "place", "I", false)
  | 7 => ("SignCategories$Level", "state", "I", false)
  | 8 => ("SignCategories$Level", "sign", "I", false)
  | _ => ("SignCategories$Level", "behind", "I", false)
def tyX1 : Nat → FieldType := fun k => match k with
  | 0 => .array .int
  | 1 => .int
  | 2 => .int
  | 3 => .boolean
  | 4 => .boolean
  | 5 => .int
  | 6 => .int
  | 7 => .int
  | 8 => .int
  | _ => .int
abbrev wsX10 : List Cond := u_ws RX1 TX1 10
theorem nmX1 : ∀ a, a < 10 → ∀ b, b < 10 → a ≠ b → (TX1 a).2.1 ≠ (TX1 b).2.1 := by decide +kernel
theorem tyX1_ok : ∀ k, k < 10 → parseFieldDescriptor (TX1 k).2.2.1 = some (tyX1 k) := by decide +kernel
abbrev cX1_init : ByteArray := prog_3_method_1_code
def yX1_init : MethodName := ⟨RX1, "<init>", "()V"⟩
abbrev cX1_start : ByteArray := prog_3_method_2_code
def yX1_start : MethodName := ⟨RX1, "start", "(I)V"⟩
abbrev cX1_beginLine : ByteArray := prog_3_method_3_code
def yX1_beginLine : MethodName := ⟨RX1, "beginLine", "(LSignCategories$Library;I)V"⟩
abbrev cX1_left : ByteArray := prog_3_method_4_code
def yX1_left : MethodName := ⟨RX1, "left", "()I"⟩
abbrev cX1_standing : ByteArray := prog_3_method_5_code
def yX1_standing : MethodName := ⟨RX1, "standing", "(I)I"⟩
abbrev cX1_look : ByteArray := prog_3_method_6_code
def yX1_look : MethodName := ⟨RX1, "look", "(ILSignCategories$CategoryTable;)V"⟩
abbrev cX1_tellsAnother : ByteArray := prog_3_method_7_code
def yX1_tellsAnother : MethodName := ⟨RX1, "tellsAnother", "(LSignCategories$CategoryTable;)Z"⟩
abbrev cX1_tellAnother : ByteArray := prog_3_method_8_code
def yX1_tellAnother : MethodName := ⟨RX1, "tellAnother", "()V"⟩
abbrev cX1_digit : ByteArray := prog_3_method_9_code
def yX1_digit : MethodName := ⟨RX1, "digit", "(I)I"⟩
def RX2 : String := "SignCategories$Library"
def TX2 : u_T := fun k => match k with
  | 0 => ("SignCategories$Library", "lineCounts", "[I", true)
  | 1 => ("SignCategories$Library", "lengths", "[I", true)
  | 2 => ("SignCategories$Library", "signs", "[I", true)
  | _ => ("SignCategories$Library", "files", "I", false)
def tyX2 : Nat → FieldType := fun k => match k with
  | 0 => .array .int
  | 1 => .array .int
  | 2 => .array .int
  | _ => .int
abbrev wsX20 : List Cond := u_ws RX2 TX2 4
theorem nmX2 : ∀ a, a < 4 → ∀ b, b < 4 → a ≠ b → (TX2 a).2.1 ≠ (TX2 b).2.1 := by decide +kernel
theorem tyX2_ok : ∀ k, k < 4 → parseFieldDescriptor (TX2 k).2.2.1 = some (tyX2 k) := by decide +kernel
abbrev cX2_init : ByteArray := prog_4_method_1_code
def yX2_init : MethodName := ⟨RX2, "<init>", "()V"⟩
abbrev cX2_hasFile : ByteArray := prog_4_method_2_code
def yX2_hasFile : MethodName := ⟨RX2, "hasFile", "(I)Z"⟩
abbrev cX2_newFile : ByteArray := prog_4_method_3_code
def yX2_newFile : MethodName := ⟨RX2, "newFile", "()I"⟩
abbrev cX2_lineCount : ByteArray := prog_4_method_4_code
def yX2_lineCount : MethodName := ⟨RX2, "lineCount", "(I)I"⟩
abbrev cX2_newLine : ByteArray := prog_4_method_5_code
def yX2_newLine : MethodName := ⟨RX2, "newLine", "(I)I"⟩
abbrev cX2_append : ByteArray := prog_4_method_6_code
def yX2_append : MethodName := ⟨RX2, "append", "(IJI)I"⟩
abbrev cX2_putSign : ByteArray := prog_4_method_7_code
def yX2_putSign : MethodName := ⟨RX2, "putSign", "(II)V"⟩
abbrev cX2_copyLine : ByteArray := prog_4_method_8_code
def yX2_copyLine : MethodName := ⟨RX2, "copyLine", "(II[I)I"⟩
abbrev cX2_signAt : ByteArray := prog_4_method_9_code
def yX2_signAt : MethodName := ⟨RX2, "signAt", "(I)I"⟩
def RX3 : String := "SignCategories$Names"
def TX3 : u_T := fun k => match k with
  | 0 => ("SignCategories$Names", "signs", "[I", true)
  | 1 => ("SignCategories$Names", "lengths", "[I", true)
  | 2 => ("SignCategories$Names", "draft", "[I", true)
  | 3 => ("SignCategories$Names", "size", "I", false)
  | _ => ("SignCategories$Names", "drafted", "I", false)
def tyX3 : Nat → FieldType := fun k => match k with
  | 0 => .array .int
  | 1 => .array .int
  | 2 => .array .int
  | 3 => .int
  | _ => .int
abbrev wsX30 : List Cond := u_ws RX3 TX3 5
theorem nmX3 : ∀ a, a < 5 → ∀ b, b < 5 → a ≠ b → (TX3 a).2.1 ≠ (TX3 b).2.1 := by decide +kernel
theorem tyX3_ok : ∀ k, k < 5 → parseFieldDescriptor (TX3 k).2.2.1 = some (tyX3 k) := by decide +kernel
abbrev cX3_init : ByteArray := prog_5_method_1_code
def yX3_init : MethodName := ⟨RX3, "<init>", "()V"⟩
abbrev cX3_has : ByteArray := prog_5_method_2_code
def yX3_has : MethodName := ⟨RX3, "has", "(I)Z"⟩
abbrev cX3_sign : ByteArray := prog_5_method_3_code
def yX3_sign : MethodName := ⟨RX3, "sign", "(II)I"⟩
abbrev cX3_beginDraft : ByteArray := prog_5_method_4_code
def yX3_beginDraft : MethodName := ⟨RX3, "beginDraft", "()V"⟩
abbrev cX3_growDraft : ByteArray := prog_5_method_5_code
def yX3_growDraft : MethodName := ⟨RX3, "growDraft", "(I)V"⟩
abbrev cX3_draftIsLong : ByteArray := prog_5_method_6_code
def yX3_draftIsLong : MethodName := ⟨RX3, "draftIsLong", "()Z"⟩
abbrev cX3_numberOfDraft : ByteArray := prog_5_method_7_code
def yX3_numberOfDraft : MethodName := ⟨RX3, "numberOfDraft", "()I"⟩
abbrev cX3_draftLength : ByteArray := prog_5_method_8_code
def yX3_draftLength : MethodName := ⟨RX3, "draftLength", "()I"⟩
abbrev cX3_isDraft : ByteArray := prog_5_method_9_code
def yX3_isDraft : MethodName := ⟨RX3, "isDraft", "(I)Z"⟩
abbrev cX3_allDiffer : ByteArray := prog_5_method_10_code
def yX3_allDiffer : MethodName := ⟨RX3, "allDiffer", "()Z"⟩
abbrev cX3_areSame : ByteArray := prog_5_method_11_code
def yX3_areSame : MethodName := ⟨RX3, "areSame", "(II)Z"⟩
def RX4 : String := "SignCategories$Reports"
def TX4 : u_T := fun k => match k with
  | 0 => ("SignCategories$Reports", "parts", "[I", true)
  | _ => ("SignCategories$Reports", "size", "I", false)
def tyX4 : Nat → FieldType := fun k => match k with
  | 0 => .array .int
  | _ => .int
abbrev wsX40 : List Cond := u_ws RX4 TX4 2
theorem nmX4 : ∀ a, a < 2 → ∀ b, b < 2 → a ≠ b → (TX4 a).2.1 ≠ (TX4 b).2.1 := by decide +kernel
theorem tyX4_ok : ∀ k, k < 2 → parseFieldDescriptor (TX4 k).2.2.1 = some (tyX4 k) := by decide +kernel
abbrev cX4_init : ByteArray := prog_6_method_1_code
def yX4_init : MethodName := ⟨RX4, "<init>", "()V"⟩
abbrev cX4_report : ByteArray := prog_6_method_2_code
def yX4_report : MethodName := ⟨RX4, "report", "(III)V"⟩
abbrev cX4_part : ByteArray := prog_6_method_3_code
def yX4_part : MethodName := ⟨RX4, "part", "(II)I"⟩
def RX5 : String := "SignCategories$Tokens"
def TX5 : u_T := fun k => match k with
  | 0 => ("SignCategories$Tokens", "parts", "[I", true)
  | _ => ("SignCategories$Tokens", "size", "I", false)
def tyX5 : Nat → FieldType := fun k => match k with
  | 0 => .array .int
  | _ => .int
abbrev wsX50 : List Cond := u_ws RX5 TX5 2
theorem nmX5 : ∀ a, a < 2 → ∀ b, b < 2 → a ≠ b → (TX5 a).2.1 ≠ (TX5 b).2.1 := by decide +kernel
theorem tyX5_ok : ∀ k, k < 2 → parseFieldDescriptor (TX5 k).2.2.1 = some (tyX5 k) := by decide +kernel
abbrev cX5_init : ByteArray := prog_7_method_1_code
def yX5_init : MethodName := ⟨RX5, "<init>", "()V"⟩
abbrev cX5_isFull : ByteArray := prog_7_method_2_code
def yX5_isFull : MethodName := ⟨RX5, "isFull", "()Z"⟩
abbrev cX5_has : ByteArray := prog_7_method_3_code
def yX5_has : MethodName := ⟨RX5, "has", "(I)Z"⟩
abbrev cX5_put : ByteArray := prog_7_method_4_code
def yX5_put : MethodName := ⟨RX5, "put", "(IIILSignCategories$Level;I)I"⟩
abbrev cX5_part : ByteArray := prog_7_method_5_code
def yX5_part : MethodName := ⟨RX5, "part", "(II)I"⟩
def RX6 : String := "SignCategories"
def TX6 : u_T := fun k => match k with
  | 0 => ("SignCategories", "table", "LSignCategories$CategoryTable;", true)
  | 1 => ("SignCategories", "meanings", "[Z", true)
  | 2 => ("SignCategories", "library", "LSignCategories$Library;", true)
  | 3 => ("SignCategories", "levels", "[LSignCategories$Level;", true)
  | 4 => ("SignCategories", "names", "LSignCategories$Names;", true)
  | 5 => ("SignCategories", "tokens", "LSignCategories$Tokens;", true)
  | 6 => ("SignCategories", "reports", "LSignCategories$Reports;", true)
  | 7 => ("SignCategories", "levelCount", "I", false)
  | 8 => ("SignCategories", "lineEnd", "I", false)
  | _ => ("SignCategories", "linesBegun", "I", false)
def tyX6 : Nat → FieldType := fun k => match k with
  | 0 => .object "SignCategories$CategoryTable"
  | 1 => .array .boolean
  | 2 => .object "SignCategories$Library"
  | 3 => .array (.object "SignCategories$Level")
  | 4 => .object "SignCategories$Names"
  | 5 => .object "SignCategories$Tokens"
  | 6 => .object "SignCategories$Reports"
  | 7 => .int
  | 8 => .int
  | _ => .int
abbrev wsX60 : List Cond := u_ws RX6 TX6 10
theorem nmX6 : ∀ a, a < 10 → ∀ b, b < 10 → a ≠ b → (TX6 a).2.1 ≠ (TX6 b).2.1 := by decide +kernel
theorem tyX6_ok : ∀ k, k < 10 → parseFieldDescriptor (TX6 k).2.2.1 = some (tyX6 k) := by decide +kernel
abbrev cX6_init : ByteArray := prog_1_method_1_code
def yX6_init : MethodName := ⟨RX6, "<init>", "()V"⟩
abbrev cX6_category : ByteArray := prog_1_method_2_code
def yX6_category : MethodName := ⟨RX6, "category", "(IIZ)I"⟩
abbrev cX6_group : ByteArray := prog_1_method_3_code
def yX6_group : MethodName := ⟨RX6, "group", "(Z)I"⟩
abbrev cX6_endSign : ByteArray := prog_1_method_4_code
def yX6_endSign : MethodName := ⟨RX6, "endSign", "(I)I"⟩
abbrev cX6_meaning : ByteArray := prog_1_method_5_code
def yX6_meaning : MethodName := ⟨RX6, "meaning", "(IZ)I"⟩
abbrev cX6_file : ByteArray := prog_1_method_6_code
def yX6_file : MethodName := ⟨RX6, "file", "()I"⟩
abbrev cX6_line : ByteArray := prog_1_method_7_code
def yX6_line : MethodName := ⟨RX6, "line", "(I)I"⟩
abbrev cX6_add : ByteArray := prog_1_method_8_code
def yX6_add : MethodName := ⟨RX6, "add", "(IJI)I"⟩
abbrev cX6_open : ByteArray := prog_1_method_9_code
def yX6_open : MethodName := ⟨RX6, "open", "(I)I"⟩
abbrev cX6_close : ByteArray := prog_1_method_10_code
def yX6_close : MethodName := ⟨RX6, "close", "()I"⟩
abbrev cX6_next : ByteArray := prog_1_method_11_code
def yX6_next : MethodName := ⟨RX6, "next", "()I"⟩
abbrev cX6_raw : ByteArray := prog_1_method_12_code
def yX6_raw : MethodName := ⟨RX6, "raw", "()I"⟩
abbrev cX6_token : ByteArray := prog_1_method_13_code
def yX6_token : MethodName := ⟨RX6, "token", "(II)I"⟩
abbrev cX6_name : ByteArray := prog_1_method_14_code
def yX6_name : MethodName := ⟨RX6, "name", "(II)I"⟩
abbrev cX6_told : ByteArray := prog_1_method_15_code
def yX6_told : MethodName := ⟨RX6, "told", "(II)I"⟩
abbrev cX6_categoryOf : ByteArray := prog_1_method_16_code
def yX6_categoryOf : MethodName := ⟨RX6, "categoryOf", "(I)I"⟩
abbrev cX6_state : ByteArray := prog_1_method_17_code
def yX6_state : MethodName := ⟨RX6, "state", "()I"⟩
abbrev cX6_count : ByteArray := prog_1_method_18_code
def yX6_count : MethodName := ⟨RX6, "count", "(I)I"⟩
abbrev cX6_check : ByteArray := prog_1_method_19_code
def yX6_check : MethodName := ⟨RX6, "check", "()I"⟩
abbrev cX6_isSign : ByteArray := prog_1_method_20_code
def yX6_isSign : MethodName := ⟨RX6, "isSign", "(I)Z"⟩
abbrev cX6_topLevel : ByteArray := prog_1_method_21_code
def yX6_topLevel : MethodName := ⟨RX6, "topLevel", "()LSignCategories$Level;"⟩
abbrev cX6_signsLeft : ByteArray := prog_1_method_22_code
def yX6_signsLeft : MethodName := ⟨RX6, "signsLeft", "()I"⟩
abbrev cX6_tokensHaveNames : ByteArray := prog_1_method_23_code
def yX6_tokensHaveNames : MethodName := ⟨RX6, "tokensHaveNames", "()Z"⟩
abbrev cX6_refusalAtOnce : ByteArray := prog_1_method_24_code
def yX6_refusalAtOnce : MethodName := ⟨RX6, "refusalAtOnce", "()I"⟩
abbrev cX6_levelWithLine : ByteArray := prog_1_method_25_code
def yX6_levelWithLine : MethodName := ⟨RX6, "levelWithLine", "()LSignCategories$Level;"⟩
abbrev cX6_dropUsedLine : ByteArray := prog_1_method_26_code
def yX6_dropUsedLine : MethodName := ⟨RX6, "dropUsedLine", "(LSignCategories$Level;)I"⟩
abbrev cX6_readToken : ByteArray := prog_1_method_27_code
def yX6_readToken : MethodName := ⟨RX6, "readToken", "(LSignCategories$Level;)I"⟩
abbrev cX6_readLineEnd : ByteArray := prog_1_method_28_code
def yX6_readLineEnd : MethodName := ⟨RX6, "readLineEnd", "(LSignCategories$Level;I)I"⟩
abbrev cX6_readBlank : ByteArray := prog_1_method_29_code
def yX6_readBlank : MethodName := ⟨RX6, "readBlank", "(LSignCategories$Level;I)I"⟩
abbrev cX6_readActive : ByteArray := prog_1_method_30_code
def yX6_readActive : MethodName := ⟨RX6, "readActive", "(LSignCategories$Level;II)I"⟩
abbrev cX6_readName : ByteArray := prog_1_method_31_code
def yX6_readName : MethodName := ⟨RX6, "readName", "(LSignCategories$Level;I)I"⟩
abbrev cX6_draftLetters : ByteArray := prog_1_method_32_code
def yX6_draftLetters : MethodName := ⟨RX6, "draftLetters", "(LSignCategories$Level;)V"⟩
def RX7 : String := "SignCategoriesModel"
def TX7 : u_T := fun k => match k with
  | 0 => ("SignCategoriesModel", "thrown", "I", false)
  | 1 => ("SignCategoriesModel", "categories", "[I", true)
  | 2 => ("SignCategoriesModel", "saved", "[I", true)
  | 3 => ("SignCategoriesModel", "groups", "I", false)
  | 4 => ("SignCategoriesModel", "meanings", "[Z", true)
  | 5 => ("SignCategoriesModel", "endSign", "I", false)
  | 6 => ("SignCategoriesModel", "files", "I", false)
  | 7 => ("SignCategoriesModel", "lineCounts", "[I", true)
  | 8 => ("SignCategoriesModel", "lengths", "[I", true)
  | 9 => ("SignCategoriesModel", "signs", "[I", true)
  | 10 => ("SignCategoriesModel", "levels", "I", false)
  | 11 => ("SignCategoriesModel", "levelFiles", "[I", true)
  | 12 => ("SignCategoriesModel", "levelLines", "[I", true)
  | 13 => ("SignCategoriesModel", "rows", "[I", true)
  | 14 => ("SignCategoriesModel", "rowLengths", "[I", true)
  | 15 => ("SignCategoriesModel", "places", "[I", true)
  | 16 => ("SignCategoriesModel", "states", "[I", true)
  | 17 => ("SignCategoriesModel", "ends", "[Z", true)
  | 18 => ("SignCategoriesModel", "begun", "I", false)
  | 19 => ("SignCategoriesModel", "tokens", "I", false)
  | 20 => ("SignCategoriesModel", "tokenRows", "[I", true)
  | 21 => ("SignCategoriesModel", "names", "I", false)
  | 22 => ("SignCategoriesModel", "nameSigns", "[I", true)
  | 23 => ("SignCategoriesModel", "nameLengths", "[I", true)
  | 24 => ("SignCategoriesModel", "told", "I", false)
  | 25 => ("SignCategoriesModel", "toldRows", "[I", true)
  | 26 => ("SignCategoriesModel", "sign", "I", false)
  | 27 => ("SignCategoriesModel", "width", "I", false)
  | 28 => ("SignCategoriesModel", "word", "[I", true)
  | _ => ("SignCategoriesModel", "wordLength", "I", false)
def tyX7 : Nat → FieldType := fun k => match k with
  | 0 => .int
  | 1 => .array .int
  | 2 => .array .int
  | 3 => .int
  | 4 => .array .boolean
  | 5 => .int
  | 6 => .int
  | 7 => .array .int
  | 8 => .array .int
  | 9 => .array .int
  | 10 => .int
  | 11 => .array .int
  | 12 => .array .int
  | 13 => .array .int
  | 14 => .array .int
  | 15 => .array .int
  | 16 => .array .int
  | 17 => .array .boolean
  | 18 => .int
  | 19 => .int
  | 20 => .array .int
  | 21 => .int
  | 22 => .array .int
  | 23 => .array .int
  | 24 => .int
  | 25 => .array .int
  | 26 => .int
  | 27 => .int
  | 28 => .array .int
  | _ => .int
abbrev wsX70 : List Cond := u_ws RX7 TX7 30
theorem nmX7 : ∀ a, a < 30 → ∀ b, b < 30 → a ≠ b → (TX7 a).2.1 ≠ (TX7 b).2.1 := by decide +kernel
theorem tyX7_ok : ∀ k, k < 30 → parseFieldDescriptor (TX7 k).2.2.1 = some (tyX7 k) := by decide +kernel
abbrev cX7_init : ByteArray := prog_9_method_1_code
def yX7_init : MethodName := ⟨RX7, "<init>", "()V"⟩
abbrev cX7_thrown : ByteArray := prog_9_method_2_code
def yX7_thrown : MethodName := ⟨RX7, "thrown", "()I"⟩
abbrev cX7_isSign : ByteArray := prog_9_method_3_code
def yX7_isSign : MethodName := ⟨RX7, "isSign", "(I)Z"⟩
abbrev cX7_category : ByteArray := prog_9_method_4_code
def yX7_category : MethodName := ⟨RX7, "category", "(IIZ)I"⟩
abbrev cX7_group : ByteArray := prog_9_method_5_code
def yX7_group : MethodName := ⟨RX7, "group", "(Z)I"⟩
abbrev cX7_endSign : ByteArray := prog_9_method_6_code
def yX7_endSign : MethodName := ⟨RX7, "endSign", "(I)I"⟩
abbrev cX7_meaning : ByteArray := prog_9_method_7_code
def yX7_meaning : MethodName := ⟨RX7, "meaning", "(IZ)I"⟩
abbrev cX7_isFile : ByteArray := prog_9_method_8_code
def yX7_isFile : MethodName := ⟨RX7, "isFile", "(I)Z"⟩
abbrev cX7_file : ByteArray := prog_9_method_9_code
def yX7_file : MethodName := ⟨RX7, "file", "()I"⟩
abbrev cX7_line : ByteArray := prog_9_method_10_code
def yX7_line : MethodName := ⟨RX7, "line", "(I)I"⟩
abbrev cX7_add : ByteArray := prog_9_method_11_code
def yX7_add : MethodName := ⟨RX7, "add", "(IJI)I"⟩
abbrev cX7_open : ByteArray := prog_9_method_12_code
def yX7_open : MethodName := ⟨RX7, "open", "(I)I"⟩
abbrev cX7_close : ByteArray := prog_9_method_13_code
def yX7_close : MethodName := ⟨RX7, "close", "()I"⟩
abbrev cX7_hasLine : ByteArray := prog_9_method_14_code
def yX7_hasLine : MethodName := ⟨RX7, "hasLine", "()Z"⟩
abbrev cX7_begin : ByteArray := prog_9_method_15_code
def yX7_begin : MethodName := ⟨RX7, "begin", "(II)V"⟩
abbrev cX7_standing : ByteArray := prog_9_method_16_code
def yX7_standing : MethodName := ⟨RX7, "standing", "(I)I"⟩
abbrev cX7_digit : ByteArray := prog_9_method_17_code
def yX7_digit : MethodName := ⟨RX7, "digit", "(I)I"⟩
abbrev cX7_see : ByteArray := prog_9_method_18_code
def yX7_see : MethodName := ⟨RX7, "see", "(I)V"⟩
abbrev cX7_isLow : ByteArray := prog_9_method_19_code
def yX7_isLow : MethodName := ⟨RX7, "isLow", "(I)Z"⟩
abbrev cX7_tell : ByteArray := prog_9_method_20_code
def yX7_tell : MethodName := ⟨RX7, "tell", "(II)V"⟩
abbrev cX7_keep : ByteArray := prog_9_method_21_code
def yX7_keep : MethodName := ⟨RX7, "keep", "(IIII)I"⟩
abbrev cX7_nameOfWord : ByteArray := prog_9_method_22_code
def yX7_nameOfWord : MethodName := ⟨RX7, "nameOfWord", "()I"⟩
abbrev cX7_addToWord : ByteArray := prog_9_method_23_code
def yX7_addToWord : MethodName := ⟨RX7, "addToWord", "(I)V"⟩
abbrev cX7_readWord : ByteArray := prog_9_method_24_code
def yX7_readWord : MethodName := ⟨RX7, "readWord", "(I)I"⟩
abbrev cX7_give : ByteArray := prog_9_method_25_code
def yX7_give : MethodName := ⟨RX7, "give", "()I"⟩
abbrev cX7_next : ByteArray := prog_9_method_26_code
def yX7_next : MethodName := ⟨RX7, "next", "()I"⟩
abbrev cX7_raw : ByteArray := prog_9_method_27_code
def yX7_raw : MethodName := ⟨RX7, "raw", "()I"⟩
abbrev cX7_token : ByteArray := prog_9_method_28_code
def yX7_token : MethodName := ⟨RX7, "token", "(II)I"⟩
abbrev cX7_name : ByteArray := prog_9_method_29_code
def yX7_name : MethodName := ⟨RX7, "name", "(II)I"⟩
abbrev cX7_told : ByteArray := prog_9_method_30_code
def yX7_told : MethodName := ⟨RX7, "told", "(II)I"⟩
abbrev cX7_categoryOf : ByteArray := prog_9_method_31_code
def yX7_categoryOf : MethodName := ⟨RX7, "categoryOf", "(I)I"⟩
abbrev cX7_state : ByteArray := prog_9_method_32_code
def yX7_state : MethodName := ⟨RX7, "state", "()I"⟩
abbrev cX7_count : ByteArray := prog_9_method_33_code
def yX7_count : MethodName := ⟨RX7, "count", "(I)I"⟩
abbrev cX7_check : ByteArray := prog_9_method_34_code
def yX7_check : MethodName := ⟨RX7, "check", "()I"⟩
def RJx00060 : String := "java/lang/ArrayIndexOutOfBoundsException"
def TJx00060 : u_T := fun k => match k with
  | 0 => ("java/lang/Throwable", "backtrace", "Ljava/lang/Object;", false)
  | 1 => ("java/lang/Throwable", "detailMessage", "Ljava/lang/String;", false)
  | 2 => ("java/lang/Throwable", "cause", "Ljava/lang/Throwable;", false)
  | 3 => ("java/lang/Throwable", "stackTrace", "[Ljava/lang/StackTraceElement;", false)
  | 4 => ("java/lang/Throwable", "depth", "I", false)
  | _ => ("java/lang/Throwable", "suppressedExceptions", "Ljava/util/List;", false)
def tyJx00060 : Nat → FieldType := fun k => match k with
  | 0 => .object "java/lang/Object"
  | 1 => .object "java/lang/String"
  | 2 => .object "java/lang/Throwable"
  | 3 => .array (.object "java/lang/StackTraceElement")
  | 4 => .int
  | _ => .object "java/util/List"
abbrev wsJx000600 : List Cond := u_ws RJx00060 TJx00060 6
theorem nmJx00060 : ∀ a, a < 6 → ∀ b, b < 6 → a ≠ b → (TJx00060 a).2.1 ≠ (TJx00060 b).2.1 := by decide +kernel
theorem tyJx00060_ok : ∀ k, k < 6 → parseFieldDescriptor (TJx00060 k).2.2.1 = some (tyJx00060 k) := by decide +kernel
abbrev cJx00060_init_a7421 : ByteArray := prog_10_method_2_code
def yJx00060_init_a7421 : MethodName := ⟨RJx00060, "<init>", "(Ljava/lang/String;)V"⟩
def RJ0 : String := "java/lang/String"
def TJ0 : u_T := fun k => match k with
  | 0 => ("java/lang/String", "value", "[B", true)
  | _ => ("java/lang/String", "coder", "B", true)
def tyJ0 : Nat → FieldType := fun k => match k with
  | 0 => .array .byte
  | _ => .byte
abbrev wsJ00 : List Cond := u_ws RJ0 TJ0 2
theorem nmJ0 : ∀ a, a < 2 → ∀ b, b < 2 → a ≠ b → (TJ0 a).2.1 ≠ (TJ0 b).2.1 := by decide +kernel
theorem tyJ0_ok : ∀ k, k < 2 → parseFieldDescriptor (TJ0 k).2.2.1 = some (tyJ0 k) := by decide +kernel
def RJ10 : String := "java/lang/System"
def TJ10 : u_T := fun k => match k with
  | _ => ("", "", "", false)
def tyJ10 : Nat → FieldType := fun k => match k with
  | _ => .int
abbrev wsJ100 : List Cond := u_ws RJ10 TJ10 0
theorem nmJ10 : ∀ a, a < 0 → ∀ b, b < 0 → a ≠ b → (TJ10 a).2.1 ≠ (TJ10 b).2.1 := by decide +kernel
theorem tyJ10_ok : ∀ k, k < 0 → parseFieldDescriptor (TJ10 k).2.2.1 = some (tyJ10 k) := by decide +kernel
def RL : String := "SignCategoriesLaw"
abbrev cL_token : ByteArray := method_3_code
def yL_token : MethodName := ⟨RL, "token", "(LSignCategories;II[J)I"⟩
abbrev cL_law : ByteArray := code
def yL_law : MethodName := ⟨RL, "law", "([I)Z"⟩
def wsL_law0_r1 : List Cond := [Cond.classLink RL 8 RX6, Cond.instantiable RX6 10, Cond.initialized RX6, Cond.classLink RL 16 RX7, Cond.instantiable RX7 30, Cond.initialized RX7, Cond.arrayClass .long, Cond.constantLong RL 48 (4294967295), Cond.methodLink RL 15 yX6_init, Cond.instanceMethod yX6_init, Cond.code yX6_init cX6_init 2 none, Cond.methodLink RX6 1 objectInit, Cond.instanceMethod objectInit, Cond.code objectInit ⟨#[0xb1]⟩ 1 none, Cond.classLink RX6 7 RX0, Cond.instantiable RX0 3, Cond.initialized RX0, Cond.fieldLink RX6 10 "SignCategories" "table" "LSignCategories$CategoryTable;", Cond.arrayClass .boolean, Cond.fieldLink RX6 16 "SignCategories" "meanings" "[Z", Cond.classLink RX6 20 RX2, Cond.instantiable RX2 4, Cond.initialized RX2, Cond.fieldLink RX6 23 "SignCategories" "library" "LSignCategories$Library;"]
def wsL_law0_r2 : List Cond := [Cond.classLink RX6 27 RX1, Cond.fieldLink RX6 29 "SignCategories" "levels" "[LSignCategories$Level;", Cond.instantiable RX1 10, Cond.initialized RX1, Cond.classLink RX6 34 RX3, Cond.instantiable RX3 5, Cond.initialized RX3, Cond.fieldLink RX6 37 "SignCategories" "names" "LSignCategories$Names;", Cond.classLink RX6 41 RX5, Cond.instantiable RX5 2, Cond.initialized RX5, Cond.fieldLink RX6 44 "SignCategories" "tokens" "LSignCategories$Tokens;", Cond.classLink RX6 48 RX4, Cond.instantiable RX4 2, Cond.initialized RX4, Cond.fieldLink RX6 51 "SignCategories" "reports" "LSignCategories$Reports;", Cond.fieldLink RX6 55 "SignCategories" "lineEnd" "I", Cond.methodLink RX6 9 yX0_init, Cond.instanceMethod yX0_init, Cond.code yX0_init cX0_init 2 none, Cond.methodLink RX0 3 objectInit, Cond.arrayClass .int, Cond.fieldLink RX0 9 "SignCategories$CategoryTable" "now" "[I", Cond.fieldLink RX0 15 "SignCategories$CategoryTable" "before" "[I"]
def wsL_law0_r3 : List Cond := [Cond.methodLink RX0 18 yX0_isLatinLetter, Cond.static yX0_isLatinLetter, Cond.code yX0_isLatinLetter cX0_isLatinLetter 1 (some .boolean), Cond.methodLink RX6 22 yX2_init, Cond.instanceMethod yX2_init, Cond.code yX2_init cX2_init 1 none, Cond.methodLink RX2 3 objectInit, Cond.fieldLink RX2 9 "SignCategories$Library" "lineCounts" "[I", Cond.fieldLink RX2 15 "SignCategories$Library" "lengths" "[I", Cond.fieldLink RX2 18 "SignCategories$Library" "signs" "[I", Cond.methodLink RX6 33 yX1_init, Cond.instanceMethod yX1_init, Cond.code yX1_init cX1_init 1 none, Cond.methodLink RX1 3 objectInit, Cond.fieldLink RX1 9 "SignCategories$Level" "signs" "[I", Cond.methodLink RX6 36 yX3_init, Cond.instanceMethod yX3_init, Cond.code yX3_init cX3_init 1 none, Cond.methodLink RX3 3 objectInit, Cond.fieldLink RX3 9 "SignCategories$Names" "signs" "[I", Cond.fieldLink RX3 15 "SignCategories$Names" "lengths" "[I", Cond.fieldLink RX3 18 "SignCategories$Names" "draft" "[I", Cond.fieldLink RX3 21 "SignCategories$Names" "size" "I", Cond.methodLink RX6 43 yX5_init]
def wsL_law0_r4 : List Cond := [Cond.instanceMethod yX5_init, Cond.code yX5_init cX5_init 1 none, Cond.methodLink RX5 3 objectInit, Cond.fieldLink RX5 9 "SignCategories$Tokens" "parts" "[I", Cond.methodLink RX6 50 yX4_init, Cond.instanceMethod yX4_init, Cond.code yX4_init cX4_init 1 none, Cond.methodLink RX4 3 objectInit, Cond.fieldLink RX4 9 "SignCategories$Reports" "parts" "[I", Cond.methodLink RL 18 yX7_init, Cond.instanceMethod yX7_init, Cond.code yX7_init cX7_init 3 none, Cond.methodLink RX7 1 objectInit, Cond.fieldLink RX7 7 "SignCategoriesModel" "categories" "[I", Cond.fieldLink RX7 13 "SignCategoriesModel" "saved" "[I", Cond.fieldLink RX7 16 "SignCategoriesModel" "meanings" "[Z", Cond.fieldLink RX7 20 "SignCategoriesModel" "endSign" "I", Cond.fieldLink RX7 24 "SignCategoriesModel" "lineCounts" "[I", Cond.fieldLink RX7 27 "SignCategoriesModel" "lengths" "[I", Cond.fieldLink RX7 30 "SignCategoriesModel" "signs" "[I", Cond.fieldLink RX7 33 "SignCategoriesModel" "levelFiles" "[I", Cond.fieldLink RX7 36 "SignCategoriesModel" "levelLines" "[I", Cond.fieldLink RX7 39 "SignCategoriesModel" "rows" "[I", Cond.fieldLink RX7 42 "SignCategoriesModel" "rowLengths" "[I"]
def wsL_law0_r5 : List Cond := [Cond.fieldLink RX7 45 "SignCategoriesModel" "places" "[I", Cond.fieldLink RX7 48 "SignCategoriesModel" "states" "[I", Cond.fieldLink RX7 51 "SignCategoriesModel" "ends" "[Z", Cond.fieldLink RX7 54 "SignCategoriesModel" "tokenRows" "[I", Cond.fieldLink RX7 57 "SignCategoriesModel" "nameSigns" "[I", Cond.fieldLink RX7 60 "SignCategoriesModel" "nameLengths" "[I", Cond.fieldLink RX7 63 "SignCategoriesModel" "toldRows" "[I", Cond.fieldLink RX7 66 "SignCategoriesModel" "word" "[I", Cond.fieldLink RX7 69 "SignCategoriesModel" "names" "I", Cond.methodLink RL 19 yX6_category, Cond.instanceMethod yX6_category, Cond.selects RX6 yX6_category yX6_category, Cond.code yX6_category cX6_category 4 (some .int), Cond.methodLink RX6 59 yX6_isSign, Cond.static yX6_isSign, Cond.code yX6_isSign cX6_isSign 1 (some .boolean), Cond.methodLink RX6 63 yX0_setEverywhere, Cond.instanceMethod yX0_setEverywhere, Cond.selects RX0 yX0_setEverywhere yX0_setEverywhere, Cond.code yX0_setEverywhere cX0_setEverywhere 4 none, Cond.fieldLink RX0 26 "SignCategories$CategoryTable" "groups" "I", Cond.methodLink RX0 22 yX0_setHere, Cond.instanceMethod yX0_setHere, Cond.selects RX0 yX0_setHere yX0_setHere]
def wsL_law0_r6 : List Cond := [Cond.code yX0_setHere cX0_setHere 3 none, Cond.methodLink RX6 67 yX0_setHere, Cond.methodLink RL 23 yX7_category, Cond.instanceMethod yX7_category, Cond.selects RX7 yX7_category yX7_category, Cond.code yX7_category cX7_category 5 (some .int), Cond.fieldLink RX7 72 "SignCategoriesModel" "thrown" "I", Cond.fieldLink RX7 79 "SignCategoriesModel" "groups" "I", Cond.methodLink RX7 75 yX7_isSign, Cond.static yX7_isSign, Cond.code yX7_isSign cX7_isSign 1 (some .boolean), Cond.methodLink RL 24 yX6_group, Cond.instanceMethod yX6_group, Cond.selects RX6 yX6_group yX6_group, Cond.code yX6_group cX6_group 2 (some .int), Cond.fieldLink RX6 74 "SignCategories$CategoryTable" "groups" "I", Cond.methodLink RX6 70 yX0_beginGroup, Cond.instanceMethod yX0_beginGroup, Cond.selects RX0 yX0_beginGroup yX0_beginGroup, Cond.code yX0_beginGroup cX0_beginGroup 1 (some .boolean), Cond.methodLink RX0 30 arraycopyName, Cond.native arraycopyName, Cond.static arraycopyName, Cond.initialized "java/lang/System"]
def wsL_law0_r7 : List Cond := [Cond.methodLink RX6 77 yX0_endGroup, Cond.instanceMethod yX0_endGroup, Cond.selects RX0 yX0_endGroup yX0_endGroup, Cond.code yX0_endGroup cX0_endGroup 1 (some .boolean), Cond.methodLink RL 28 yX7_group, Cond.instanceMethod yX7_group, Cond.selects RX7 yX7_group yX7_group, Cond.code yX7_group cX7_group 3 (some .int), Cond.methodLink RL 29 yX6_endSign, Cond.instanceMethod yX6_endSign, Cond.selects RX6 yX6_endSign yX6_endSign, Cond.code yX6_endSign cX6_endSign 2 (some .int), Cond.methodLink RL 33 yX7_endSign, Cond.instanceMethod yX7_endSign, Cond.selects RX7 yX7_endSign yX7_endSign, Cond.code yX7_endSign cX7_endSign 2 (some .int), Cond.methodLink RL 34 yX6_meaning, Cond.instanceMethod yX6_meaning, Cond.selects RX6 yX6_meaning yX6_meaning, Cond.code yX6_meaning cX6_meaning 3 (some .int), Cond.methodLink RL 38 yX7_meaning, Cond.instanceMethod yX7_meaning, Cond.selects RX7 yX7_meaning yX7_meaning, Cond.code yX7_meaning cX7_meaning 3 (some .int)]
def wsL_law0_r8 : List Cond := [Cond.methodLink RL 39 yX6_file, Cond.instanceMethod yX6_file, Cond.selects RX6 yX6_file yX6_file, Cond.code yX6_file cX6_file 1 (some .int), Cond.methodLink RX6 80 yX2_newFile, Cond.instanceMethod yX2_newFile, Cond.selects RX2 yX2_newFile yX2_newFile, Cond.code yX2_newFile cX2_newFile 1 (some .int), Cond.fieldLink RX2 21 "SignCategories$Library" "files" "I", Cond.methodLink RL 43 yX7_file, Cond.instanceMethod yX7_file, Cond.selects RX7 yX7_file yX7_file, Cond.code yX7_file cX7_file 1 (some .int), Cond.fieldLink RX7 82 "SignCategoriesModel" "files" "I", Cond.methodLink RL 44 yX6_line, Cond.instanceMethod yX6_line, Cond.selects RX6 yX6_line yX6_line, Cond.code yX6_line cX6_line 2 (some .int), Cond.methodLink RX6 84 yX2_hasFile, Cond.instanceMethod yX2_hasFile, Cond.selects RX2 yX2_hasFile yX2_hasFile, Cond.code yX2_hasFile cX2_hasFile 2 (some .boolean), Cond.methodLink RX6 87 yX2_newLine, Cond.instanceMethod yX2_newLine]
def wsL_law0_r9 : List Cond := [Cond.selects RX2 yX2_newLine yX2_newLine, Cond.code yX2_newLine cX2_newLine 3 (some .int), Cond.methodLink RX2 29 yX2_lineCount, Cond.instanceMethod yX2_lineCount, Cond.selects RX2 yX2_lineCount yX2_lineCount, Cond.code yX2_lineCount cX2_lineCount 2 (some .int), Cond.methodLink RX2 25 yX2_hasFile, Cond.methodLink RL 47 yX7_line, Cond.instanceMethod yX7_line, Cond.selects RX7 yX7_line yX7_line, Cond.code yX7_line cX7_line 2 (some .int), Cond.methodLink RX7 85 yX7_isFile, Cond.instanceMethod yX7_isFile, Cond.selects RX7 yX7_isFile yX7_isFile, Cond.code yX7_isFile cX7_isFile 2 (some .boolean), Cond.methodLink RL 50 yX6_add, Cond.instanceMethod yX6_add, Cond.selects RX6 yX6_add yX6_add, Cond.code yX6_add cX6_add 5 (some .int), Cond.methodLink RX6 91 yX2_append, Cond.instanceMethod yX2_append, Cond.selects RX2 yX2_append yX2_append, Cond.code yX2_append cX2_append 8 (some .int), Cond.methodLink RX2 33 yX2_putSign]
def wsL_law0_r10 : List Cond := [Cond.instanceMethod yX2_putSign, Cond.selects RX2 yX2_putSign yX2_putSign, Cond.code yX2_putSign cX2_putSign 3 none, Cond.methodLink RL 54 yX7_add, Cond.instanceMethod yX7_add, Cond.selects RX7 yX7_add yX7_add, Cond.code yX7_add cX7_add 7 (some .int), Cond.constantLong RX7 88 (255), Cond.methodLink RL 55 yX6_open, Cond.instanceMethod yX6_open, Cond.selects RX6 yX6_open yX6_open, Cond.code yX6_open cX6_open 2 (some .int), Cond.fieldLink RX6 95 "SignCategories" "levelCount" "I", Cond.methodLink RX6 98 yX1_start, Cond.instanceMethod yX1_start, Cond.selects RX1 yX1_start yX1_start, Cond.code yX1_start cX1_start 2 none, Cond.fieldLink RX1 15 "SignCategories$Level" "file" "I", Cond.fieldLink RX1 19 "SignCategories$Level" "begun" "I", Cond.fieldLink RX1 22 "SignCategories$Level" "toEnd" "Z", Cond.fieldLink RX1 26 "SignCategories$Level" "atHand" "Z", Cond.methodLink RL 58 yX7_open, Cond.instanceMethod yX7_open, Cond.selects RX7 yX7_open yX7_open]
def wsL_law0_r11 : List Cond := [Cond.code yX7_open cX7_open 2 (some .int), Cond.fieldLink RX7 90 "SignCategoriesModel" "levels" "I", Cond.methodLink RL 59 yX6_close, Cond.instanceMethod yX6_close, Cond.selects RX6 yX6_close yX6_close, Cond.code yX6_close cX6_close 2 (some .int), Cond.fieldLink RX6 106 "SignCategories$Level" "toEnd" "Z", Cond.methodLink RX6 102 yX6_topLevel, Cond.instanceMethod yX6_topLevel, Cond.selects RX6 yX6_topLevel yX6_topLevel, Cond.code yX6_topLevel cX6_topLevel 1 (some (.object "SignCategories$Level")), Cond.methodLink RL 62 yX7_close, Cond.instanceMethod yX7_close, Cond.selects RX7 yX7_close yX7_close, Cond.code yX7_close cX7_close 1 (some .int), Cond.methodLink RL 63 yX6_next, Cond.instanceMethod yX6_next, Cond.selects RX6 yX6_next yX6_next, Cond.code yX6_next cX6_next 5 (some .int), Cond.constant RX6 113 (1000000), Cond.methodLink RX6 110 yX6_refusalAtOnce, Cond.instanceMethod yX6_refusalAtOnce, Cond.selects RX6 yX6_refusalAtOnce yX6_refusalAtOnce, Cond.code yX6_refusalAtOnce cX6_refusalAtOnce 1 (some .int)]
def wsL_law0_r12 : List Cond := [Cond.methodLink RX6 185 yX5_isFull, Cond.instanceMethod yX5_isFull, Cond.selects RX5 yX5_isFull yX5_isFull, Cond.code yX5_isFull cX5_isFull 1 (some .boolean), Cond.fieldLink RX5 15 "SignCategories$Tokens" "size" "I", Cond.methodLink RX6 114 yX6_levelWithLine, Cond.instanceMethod yX6_levelWithLine, Cond.selects RX6 yX6_levelWithLine yX6_levelWithLine, Cond.code yX6_levelWithLine cX6_levelWithLine 3 (some (.object "SignCategories$Level")), Cond.fieldLink RX6 133 "SignCategories$Level" "atHand" "Z", Cond.fieldLink RX6 188 "SignCategories$Level" "begun" "I", Cond.fieldLink RX6 191 "SignCategories$Level" "file" "I", Cond.fieldLink RX6 175 "SignCategories" "linesBegun" "I", Cond.methodLink RX6 194 yX2_lineCount, Cond.methodLink RX6 197 yX1_beginLine, Cond.instanceMethod yX1_beginLine, Cond.selects RX1 yX1_beginLine yX1_beginLine, Cond.code yX1_beginLine cX1_beginLine 3 none, Cond.fieldLink RX1 35 "SignCategories$Level" "length" "I", Cond.fieldLink RX1 38 "SignCategories$Level" "place" "I", Cond.fieldLink RX1 41 "SignCategories$Level" "state" "I", Cond.methodLink RX1 29 yX2_copyLine, Cond.instanceMethod yX2_copyLine, Cond.selects RX2 yX2_copyLine yX2_copyLine]
def wsL_law0_r13 : List Cond := [Cond.code yX2_copyLine cX2_copyLine 8 (some .int), Cond.methodLink RX2 37 yX2_signAt, Cond.instanceMethod yX2_signAt, Cond.selects RX2 yX2_signAt yX2_signAt, Cond.code yX2_signAt cX2_signAt 2 (some .int), Cond.methodLink RX6 117 yX1_left, Cond.instanceMethod yX1_left, Cond.selects RX1 yX1_left yX1_left, Cond.code yX1_left cX1_left 1 (some .int), Cond.methodLink RX6 120 yX6_readToken, Cond.instanceMethod yX6_readToken, Cond.selects RX6 yX6_readToken yX6_readToken, Cond.code yX6_readToken cX6_readToken 5 (some .int), Cond.fieldLink RX6 127 "SignCategories$Level" "place" "I", Cond.fieldLink RX6 205 "SignCategories$Level" "sign" "I", Cond.fieldLink RX6 207 "SignCategories$Level" "behind" "I", Cond.fieldLink RX6 164 "SignCategories$Tokens" "size" "I", Cond.fieldLink RX6 161 "SignCategories$Level" "state" "I", Cond.methodLink RX6 201 yX1_look, Cond.instanceMethod yX1_look, Cond.selects RX1 yX1_look yX1_look, Cond.code yX1_look cX1_look 4 none, Cond.fieldLink RX1 48 "SignCategories$Level" "sign" "I", Cond.fieldLink RX1 51 "SignCategories$Level" "behind" "I"]
def wsL_law0_r14 : List Cond := [Cond.methodLink RX1 44 yX1_standing, Cond.instanceMethod yX1_standing, Cond.selects RX1 yX1_standing yX1_standing, Cond.code yX1_standing cX1_standing 2 (some .int), Cond.methodLink RX1 54 yX1_tellsAnother, Cond.instanceMethod yX1_tellsAnother, Cond.selects RX1 yX1_tellsAnother yX1_tellsAnother, Cond.code yX1_tellsAnother cX1_tellsAnother 3 (some .boolean), Cond.methodLink RX1 61 yX0_at, Cond.instanceMethod yX0_at, Cond.selects RX0 yX0_at yX0_at, Cond.code yX0_at cX0_at 2 (some .int), Cond.methodLink RX1 58 yX1_tellAnother, Cond.instanceMethod yX1_tellAnother, Cond.selects RX1 yX1_tellAnother yX1_tellAnother, Cond.code yX1_tellAnother cX1_tellAnother 4 none, Cond.methodLink RX1 66 yX1_digit, Cond.static yX1_digit, Cond.code yX1_digit cX1_digit 1 (some .int), Cond.methodLink RX6 158 yX0_at, Cond.methodLink RX6 210 yX6_readName, Cond.instanceMethod yX6_readName, Cond.selects RX6 yX6_readName yX6_readName, Cond.code yX6_readName cX6_readName 5 (some .int)]
def wsL_law0_r15 : List Cond := [Cond.methodLink RX6 228 yX3_beginDraft, Cond.instanceMethod yX3_beginDraft, Cond.selects RX3 yX3_beginDraft yX3_beginDraft, Cond.code yX3_beginDraft cX3_beginDraft 1 none, Cond.fieldLink RX3 29 "SignCategories$Names" "drafted" "I", Cond.methodLink RX6 231 yX6_draftLetters, Cond.instanceMethod yX6_draftLetters, Cond.selects RX6 yX6_draftLetters yX6_draftLetters, Cond.code yX6_draftLetters cX6_draftLetters 3 none, Cond.methodLink RX6 235 yX3_growDraft, Cond.instanceMethod yX3_growDraft, Cond.selects RX3 yX3_growDraft yX3_growDraft, Cond.code yX3_growDraft cX3_growDraft 2 none, Cond.methodLink RX6 238 yX3_draftIsLong, Cond.instanceMethod yX3_draftIsLong, Cond.selects RX3 yX3_draftIsLong yX3_draftIsLong, Cond.code yX3_draftIsLong cX3_draftIsLong 1 (some .boolean), Cond.methodLink RX6 224 yX4_report, Cond.instanceMethod yX4_report, Cond.selects RX4 yX4_report yX4_report, Cond.code yX4_report cX4_report 5 none, Cond.fieldLink RX4 15 "SignCategories$Reports" "size" "I", Cond.methodLink RX6 241 yX3_numberOfDraft, Cond.instanceMethod yX3_numberOfDraft]
def wsL_law0_r16 : List Cond := [Cond.selects RX3 yX3_numberOfDraft yX3_numberOfDraft, Cond.code yX3_numberOfDraft cX3_numberOfDraft 2 (some .int), Cond.methodLink RX3 39 arraycopyName, Cond.methodLink RX3 32 yX3_isDraft, Cond.instanceMethod yX3_isDraft, Cond.selects RX3 yX3_isDraft yX3_isDraft, Cond.code yX3_isDraft cX3_isDraft 3 (some .boolean), Cond.methodLink RX3 25 yX3_has, Cond.instanceMethod yX3_has, Cond.selects RX3 yX3_has yX3_has, Cond.code yX3_has cX3_has 2 (some .boolean), Cond.methodLink RX3 35 yX3_draftLength, Cond.instanceMethod yX3_draftLength, Cond.selects RX3 yX3_draftLength yX3_draftLength, Cond.code yX3_draftLength cX3_draftLength 1 (some .int), Cond.methodLink RX3 45 yX3_draftIsLong, Cond.methodLink RX3 49 yX3_sign, Cond.instanceMethod yX3_sign, Cond.selects RX3 yX3_sign yX3_sign, Cond.code yX3_sign cX3_sign 4 (some .int), Cond.methodLink RX6 136 yX5_put, Cond.instanceMethod yX5_put, Cond.selects RX5 yX5_put yX5_put, Cond.code yX5_put cX5_put 7 (some .int)]
def wsL_law0_r17 : List Cond := [Cond.fieldLink RX5 23 "SignCategories$Level" "file" "I", Cond.fieldLink RX5 28 "SignCategories$Level" "begun" "I", Cond.methodLink RX5 19 yX5_isFull, Cond.methodLink RX6 214 yX6_readLineEnd, Cond.instanceMethod yX6_readLineEnd, Cond.selects RX6 yX6_readLineEnd yX6_readLineEnd, Cond.code yX6_readLineEnd cX6_readLineEnd 3 (some .int), Cond.methodLink RX6 217 yX6_readBlank, Cond.instanceMethod yX6_readBlank, Cond.selects RX6 yX6_readBlank yX6_readBlank, Cond.code yX6_readBlank cX6_readBlank 3 (some .int), Cond.methodLink RX6 220 yX6_readActive, Cond.instanceMethod yX6_readActive, Cond.selects RX6 yX6_readActive yX6_readActive, Cond.code yX6_readActive cX6_readActive 4 (some .int), Cond.methodLink RX6 124 yX6_dropUsedLine, Cond.static yX6_dropUsedLine, Cond.code yX6_dropUsedLine cX6_dropUsedLine 1 (some .int), Cond.methodLink RL 66 yX7_next, Cond.instanceMethod yX7_next, Cond.selects RX7 yX7_next yX7_next, Cond.code yX7_next cX7_next 3 (some .int), Cond.fieldLink RX7 119 "SignCategoriesModel" "tokens" "I", Cond.methodLink RX7 146 yX7_hasLine]
def wsL_law0_r18 : List Cond := [Cond.instanceMethod yX7_hasLine, Cond.selects RX7 yX7_hasLine yX7_hasLine, Cond.code yX7_hasLine cX7_hasLine 3 (some .boolean), Cond.methodLink RX7 93 yX7_begin, Cond.instanceMethod yX7_begin, Cond.selects RX7 yX7_begin yX7_begin, Cond.code yX7_begin cX7_begin 5 none, Cond.fieldLink RX7 97 "SignCategoriesModel" "begun" "I", Cond.methodLink RX7 150 yX7_give, Cond.instanceMethod yX7_give, Cond.selects RX7 yX7_give yX7_give, Cond.code yX7_give cX7_give 7 (some .int), Cond.fieldLink RX7 104 "SignCategoriesModel" "sign" "I", Cond.fieldLink RX7 107 "SignCategoriesModel" "width" "I", Cond.methodLink RX7 125 yX7_see, Cond.instanceMethod yX7_see, Cond.selects RX7 yX7_see yX7_see, Cond.code yX7_see cX7_see 4 none, Cond.methodLink RX7 100 yX7_standing, Cond.instanceMethod yX7_standing, Cond.selects RX7 yX7_standing yX7_standing, Cond.code yX7_standing cX7_standing 3 (some .int), Cond.methodLink RX7 110 yX7_isLow, Cond.static yX7_isLow]
def wsL_law0_r19 : List Cond := [Cond.code yX7_isLow cX7_isLow 1 (some .boolean), Cond.methodLink RX7 113 yX7_digit, Cond.static yX7_digit, Cond.code yX7_digit cX7_digit 1 (some .int), Cond.methodLink RX7 135 yX7_readWord, Cond.instanceMethod yX7_readWord, Cond.selects RX7 yX7_readWord yX7_readWord, Cond.code yX7_readWord cX7_readWord 6 (some .int), Cond.fieldLink RX7 122 "SignCategoriesModel" "wordLength" "I", Cond.methodLink RX7 129 yX7_addToWord, Cond.instanceMethod yX7_addToWord, Cond.selects RX7 yX7_addToWord yX7_addToWord, Cond.code yX7_addToWord cX7_addToWord 2 none, Cond.methodLink RX7 132 yX7_tell, Cond.instanceMethod yX7_tell, Cond.selects RX7 yX7_tell yX7_tell, Cond.code yX7_tell cX7_tell 3 none, Cond.fieldLink RX7 116 "SignCategoriesModel" "told" "I", Cond.methodLink RX7 138 yX7_nameOfWord, Cond.instanceMethod yX7_nameOfWord, Cond.selects RX7 yX7_nameOfWord yX7_nameOfWord, Cond.code yX7_nameOfWord cX7_nameOfWord 4 (some .int), Cond.methodLink RX7 142 yX7_keep, Cond.instanceMethod yX7_keep]
def wsL_law0_r20 : List Cond := [Cond.selects RX7 yX7_keep yX7_keep, Cond.code yX7_keep cX7_keep 6 (some .int), Cond.methodLink RL 67 yX6_raw, Cond.instanceMethod yX6_raw, Cond.selects RX6 yX6_raw yX6_raw, Cond.code yX6_raw cX6_raw 5 (some .int), Cond.methodLink RX6 130 yX1_standing, Cond.methodLink RL 70 yX7_raw, Cond.instanceMethod yX7_raw, Cond.selects RX7 yX7_raw yX7_raw, Cond.code yX7_raw cX7_raw 3 (some .int), Cond.methodLink RL 71 yL_token, Cond.static yL_token, Cond.initialized RL, Cond.codeWith yL_token cL_token 5 (some .int) [(0, 10, 13, 13)], Cond.classLink RL 13 "java/lang/ArrayIndexOutOfBoundsException", Cond.methodLink RL 7 yX6_token, Cond.instanceMethod yX6_token, Cond.selects RX6 yX6_token yX6_token, Cond.code yX6_token cX6_token 3 (some .int), Cond.classLink RX6 143 RJx00060, Cond.instantiable RJx00060 6, Cond.initialized RJx00060, Cond.methodLink RX6 140 yX5_has]
def wsL_law0_r21 : List Cond := [Cond.instanceMethod yX5_has, Cond.selects RX5 yX5_has yX5_has, Cond.code yX5_has cX5_has 2 (some .boolean), Cond.methodLink RX6 150 yX5_part, Cond.instanceMethod yX5_part, Cond.selects RX5 yX5_part yX5_part, Cond.code yX5_part cX5_part 4 (some .int), Cond.methodLink RX5 31 yX5_has, Cond.methodLink RL 76 yX7_token, Cond.instanceMethod yX7_token, Cond.selects RX7 yX7_token yX7_token, Cond.code yX7_token cX7_token 3 (some .int), Cond.methodLink RL 77 yX7_thrown, Cond.instanceMethod yX7_thrown, Cond.selects RX7 yX7_thrown yX7_thrown, Cond.code yX7_thrown cX7_thrown 1 (some .int), Cond.methodLink RL 80 yX6_name, Cond.instanceMethod yX6_name, Cond.selects RX6 yX6_name yX6_name, Cond.code yX6_name cX6_name 3 (some .int), Cond.methodLink RX6 154 yX3_sign, Cond.methodLink RL 83 yX7_name, Cond.instanceMethod yX7_name, Cond.selects RX7 yX7_name yX7_name]
def wsL_law0_r22 : List Cond := [Cond.code yX7_name cX7_name 3 (some .int), Cond.methodLink RL 84 yX6_told, Cond.instanceMethod yX6_told, Cond.selects RX6 yX6_told yX6_told, Cond.code yX6_told cX6_told 3 (some .int), Cond.methodLink RX6 157 yX4_part, Cond.instanceMethod yX4_part, Cond.selects RX4 yX4_part yX4_part, Cond.code yX4_part cX4_part 4 (some .int), Cond.methodLink RL 87 yX7_told, Cond.instanceMethod yX7_told, Cond.selects RX7 yX7_told yX7_told, Cond.code yX7_told cX7_told 3 (some .int), Cond.methodLink RL 88 yX6_categoryOf, Cond.instanceMethod yX6_categoryOf, Cond.selects RX6 yX6_categoryOf yX6_categoryOf, Cond.code yX6_categoryOf cX6_categoryOf 2 (some .int), Cond.methodLink RL 91 yX7_categoryOf, Cond.instanceMethod yX7_categoryOf, Cond.selects RX7 yX7_categoryOf yX7_categoryOf, Cond.code yX7_categoryOf cX7_categoryOf 2 (some .int), Cond.methodLink RL 92 yX6_state, Cond.instanceMethod yX6_state, Cond.selects RX6 yX6_state yX6_state]
def wsL_law0_r23 : List Cond := [Cond.code yX6_state cX6_state 2 (some .int), Cond.methodLink RL 95 yX7_state, Cond.instanceMethod yX7_state, Cond.selects RX7 yX7_state yX7_state, Cond.code yX7_state cX7_state 1 (some .int), Cond.methodLink RL 96 yX6_count, Cond.instanceMethod yX6_count, Cond.selects RX6 yX6_count yX6_count, Cond.code yX6_count cX6_count 2 (some .int), Cond.fieldLink RX6 167 "SignCategories$Names" "size" "I", Cond.fieldLink RX6 168 "SignCategories$Library" "files" "I", Cond.fieldLink RX6 171 "SignCategories$Reports" "size" "I", Cond.methodLink RX6 172 yX6_signsLeft, Cond.instanceMethod yX6_signsLeft, Cond.selects RX6 yX6_signsLeft yX6_signsLeft, Cond.code yX6_signsLeft cX6_signsLeft 2 (some .int), Cond.methodLink RL 99 yX7_count, Cond.instanceMethod yX7_count, Cond.selects RX7 yX7_count yX7_count, Cond.code yX7_count cX7_count 3 (some .int), Cond.methodLink RL 100 yX6_check, Cond.instanceMethod yX6_check, Cond.selects RX6 yX6_check yX6_check, Cond.code yX6_check cX6_check 1 (some .int)]
def wsL_law0_r24 : List Cond := [Cond.methodLink RX6 178 yX3_allDiffer, Cond.instanceMethod yX3_allDiffer, Cond.selects RX3 yX3_allDiffer yX3_allDiffer, Cond.code yX3_allDiffer cX3_allDiffer 3 (some .boolean), Cond.methodLink RX3 53 yX3_areSame, Cond.instanceMethod yX3_areSame, Cond.selects RX3 yX3_areSame yX3_areSame, Cond.code yX3_areSame cX3_areSame 4 (some .boolean), Cond.methodLink RX6 181 yX6_tokensHaveNames, Cond.instanceMethod yX6_tokensHaveNames, Cond.selects RX6 yX6_tokensHaveNames yX6_tokensHaveNames, Cond.code yX6_tokensHaveNames cX6_tokensHaveNames 2 (some .boolean), Cond.methodLink RX6 184 yX3_has, Cond.methodLink RL 103 yX7_check, Cond.instanceMethod yX7_check, Cond.selects RX7 yX7_check yX7_check, Cond.code yX7_check cX7_check 1 (some .int)]
def wsL_law0 : List Cond := (wsL_law0_r1 ++ (wsL_law0_r2 ++ (wsL_law0_r3 ++ (wsL_law0_r4 ++ (wsL_law0_r5 ++ (wsL_law0_r6 ++ (wsL_law0_r7 ++ (wsL_law0_r8 ++ (wsL_law0_r9 ++ (wsL_law0_r10 ++ (wsL_law0_r11 ++ (wsL_law0_r12 ++ (wsL_law0_r13 ++ (wsL_law0_r14 ++ (wsL_law0_r15 ++ (wsL_law0_r16 ++ (wsL_law0_r17 ++ (wsL_law0_r18 ++ (wsL_law0_r19 ++ (wsL_law0_r20 ++ (wsL_law0_r21 ++ (wsL_law0_r22 ++ (wsL_law0_r23 ++ wsL_law0_r24))))))))))))))))))))))) ++ wsX60 ++ wsX70 ++ wsX00 ++ wsX20 ++ wsX10 ++ wsX30 ++ wsX50 ++ wsX40 ++ wsJx000600 ++ ([] : List Cond)
theorem dJx00060_init_a7421_0 : decode cJx00060_init_a7421 0 = .ok (.aload_n 0, 1) := by decide +kernel
theorem dJx00060_init_a7421_1 : decode cJx00060_init_a7421 1 = .ok (.aload_n 1, 1) := by decide +kernel
theorem dJx00060_init_a7421_2 : decode cJx00060_init_a7421 2 = .ok (.invokespecial 7, 3) := by decide +kernel
theorem dJx00060_init_a7421_5 : decode cJx00060_init_a7421 5 = .ok (.return_, 1) := by decide +kernel
abbrev vwCl : List vw_C := [(RJ0, TJ0, 2), (RJx00060, TJx00060, 6), (RX0, TX0, 3), (RX1, TX1, 10), (RX2, TX2, 4), (RX3, TX3, 5), (RX4, TX4, 2), (RX5, TX5, 2), (RX6, TX6, 10), (RX7, TX7, 30)]
end
section
theorem dL_token_0 : decode cL_token 0 = .ok (.aload_n 3, 1) := by decide +kernel
theorem dL_token_1 : decode cL_token 1 = .ok (.iconst 0, 1) := by decide +kernel
theorem dL_token_2 : decode cL_token 2 = .ok (.aload_n 0, 1) := by decide +kernel
theorem dL_token_3 : decode cL_token 3 = .ok (.iload_n 1, 1) := by decide +kernel
theorem dL_token_4 : decode cL_token 4 = .ok (.iload_n 2, 1) := by decide +kernel
theorem dL_token_5 : decode cL_token 5 = .ok (.invokevirtual 7, 3) := by decide +kernel
theorem dL_token_8 : decode cL_token 8 = .ok (.i2l, 1) := by decide +kernel
theorem dL_token_9 : decode cL_token 9 = .ok (.lastore, 1) := by decide +kernel
theorem dL_token_10 : decode cL_token 10 = .ok (.goto 7, 3) := by decide +kernel
theorem dL_token_13 : decode cL_token 13 = .ok (.astore 4, 2) := by decide +kernel
theorem dL_token_15 : decode cL_token 15 = .ok (.iconst 1, 1) := by decide +kernel
theorem dL_token_16 : decode cL_token 16 = .ok (.ireturn, 1) := by decide +kernel
theorem dL_token_17 : decode cL_token 17 = .ok (.iconst 0, 1) := by decide +kernel
theorem dL_token_18 : decode cL_token 18 = .ok (.ireturn, 1) := by decide +kernel
theorem dL_law_0 : decode cL_law 0 = .ok (.new 8, 3) := by decide +kernel
theorem dL_law_3 : decode cL_law 3 = .ok (.dup, 1) := by decide +kernel
theorem dL_law_4 : decode cL_law 4 = .ok (.invokespecial 15, 3) := by decide +kernel
theorem dL_law_7 : decode cL_law 7 = .ok (.astore_n 1, 1) := by decide +kernel
theorem dL_law_8 : decode cL_law 8 = .ok (.new 16, 3) := by decide +kernel
theorem dL_law_11 : decode cL_law 11 = .ok (.dup, 1) := by decide +kernel
theorem dL_law_12 : decode cL_law 12 = .ok (.invokespecial 18, 3) := by decide +kernel
theorem dL_law_15 : decode cL_law 15 = .ok (.astore_n 2, 1) := by decide +kernel
theorem dL_law_16 : decode cL_law 16 = .ok (.iconst 1, 1) := by decide +kernel
theorem dL_law_17 : decode cL_law 17 = .ok (.newarray .long, 2) := by decide +kernel
theorem dL_law_19 : decode cL_law 19 = .ok (.astore_n 3, 1) := by decide +kernel
theorem dL_law_20 : decode cL_law 20 = .ok (.iconst 0, 1) := by decide +kernel
theorem dL_law_21 : decode cL_law 21 = .ok (.istore 4, 2) := by decide +kernel
theorem dL_law_23 : decode cL_law 23 = .ok (.iload 4, 2) := by decide +kernel
theorem dL_law_25 : decode cL_law 25 = .ok (.aload_n 0, 1) := by decide +kernel
theorem dL_law_26 : decode cL_law 26 = .ok (.arraylength, 1) := by decide +kernel
theorem dL_law_27 : decode cL_law 27 = .ok (.iconst 5, 1) := by decide +kernel
theorem dL_law_28 : decode cL_law 28 = .ok (.isub, 1) := by decide +kernel
theorem dL_law_29 : decode cL_law 29 = .ok (.if_icmp .gt 686, 3) := by decide +kernel
theorem dL_law_32 : decode cL_law 32 = .ok (.aload_n 0, 1) := by decide +kernel
theorem dL_law_33 : decode cL_law 33 = .ok (.iload 4, 2) := by decide +kernel
theorem dL_law_35 : decode cL_law 35 = .ok (.iaload, 1) := by decide +kernel
theorem dL_law_36 : decode cL_law 36 = .ok (.bipush 31, 2) := by decide +kernel
theorem dL_law_38 : decode cL_law 38 = .ok (.iand, 1) := by decide +kernel
theorem dL_law_39 : decode cL_law 39 = .ok (.tableswitch 670 0 17 #[85, 150, 191, 216, 269, 282, 307, 388, 413, 426, 439, 452, 520, 557, 594, 619, 632, 657], 85) := by decide +kernel
theorem dL_law_124 : decode cL_law 124 = .ok (.aload_n 1, 1) := by decide +kernel
theorem dL_law_125 : decode cL_law 125 = .ok (.aload_n 0, 1) := by decide +kernel
theorem dL_law_126 : decode cL_law 126 = .ok (.iload 4, 2) := by decide +kernel
theorem dL_law_128 : decode cL_law 128 = .ok (.iconst 1, 1) := by decide +kernel
theorem dL_law_129 : decode cL_law 129 = .ok (.iadd, 1) := by decide +kernel
theorem dL_law_130 : decode cL_law 130 = .ok (.iaload, 1) := by decide +kernel
theorem dL_law_131 : decode cL_law 131 = .ok (.aload_n 0, 1) := by decide +kernel
theorem dL_law_132 : decode cL_law 132 = .ok (.iload 4, 2) := by decide +kernel
theorem dL_law_134 : decode cL_law 134 = .ok (.iconst 2, 1) := by decide +kernel
theorem dL_law_135 : decode cL_law 135 = .ok (.iadd, 1) := by decide +kernel
theorem dL_law_136 : decode cL_law 136 = .ok (.iaload, 1) := by decide +kernel
theorem dL_law_137 : decode cL_law 137 = .ok (.aload_n 0, 1) := by decide +kernel
theorem dL_law_138 : decode cL_law 138 = .ok (.iload 4, 2) := by decide +kernel
theorem dL_law_140 : decode cL_law 140 = .ok (.iconst 3, 1) := by decide +kernel
theorem dL_law_141 : decode cL_law 141 = .ok (.iadd, 1) := by decide +kernel
theorem dL_law_142 : decode cL_law 142 = .ok (.iaload, 1) := by decide +kernel
theorem dL_law_143 : decode cL_law 143 = .ok (.ifCond .eq 7, 3) := by decide +kernel
theorem dL_law_146 : decode cL_law 146 = .ok (.iconst 1, 1) := by decide +kernel
theorem dL_law_147 : decode cL_law 147 = .ok (.goto 4, 3) := by decide +kernel
theorem dL_law_150 : decode cL_law 150 = .ok (.iconst 0, 1) := by decide +kernel
theorem dL_law_151 : decode cL_law 151 = .ok (.invokevirtual 19, 3) := by decide +kernel
theorem dL_law_154 : decode cL_law 154 = .ok (.aload_n 2, 1) := by decide +kernel
theorem dL_law_155 : decode cL_law 155 = .ok (.aload_n 0, 1) := by decide +kernel
theorem dL_law_156 : decode cL_law 156 = .ok (.iload 4, 2) := by decide +kernel
theorem dL_law_158 : decode cL_law 158 = .ok (.iconst 1, 1) := by decide +kernel
theorem dL_law_159 : decode cL_law 159 = .ok (.iadd, 1) := by decide +kernel
theorem dL_law_160 : decode cL_law 160 = .ok (.iaload, 1) := by decide +kernel
theorem dL_law_161 : decode cL_law 161 = .ok (.aload_n 0, 1) := by decide +kernel
theorem dL_law_162 : decode cL_law 162 = .ok (.iload 4, 2) := by decide +kernel
theorem dL_law_164 : decode cL_law 164 = .ok (.iconst 2, 1) := by decide +kernel
theorem dL_law_165 : decode cL_law 165 = .ok (.iadd, 1) := by decide +kernel
theorem dL_law_166 : decode cL_law 166 = .ok (.iaload, 1) := by decide +kernel
theorem dL_law_167 : decode cL_law 167 = .ok (.aload_n 0, 1) := by decide +kernel
theorem dL_law_168 : decode cL_law 168 = .ok (.iload 4, 2) := by decide +kernel
theorem dL_law_170 : decode cL_law 170 = .ok (.iconst 3, 1) := by decide +kernel
theorem dL_law_171 : decode cL_law 171 = .ok (.iadd, 1) := by decide +kernel
theorem dL_law_172 : decode cL_law 172 = .ok (.iaload, 1) := by decide +kernel
theorem dL_law_173 : decode cL_law 173 = .ok (.ifCond .eq 7, 3) := by decide +kernel
theorem dL_law_176 : decode cL_law 176 = .ok (.iconst 1, 1) := by decide +kernel
theorem dL_law_177 : decode cL_law 177 = .ok (.goto 4, 3) := by decide +kernel
theorem dL_law_180 : decode cL_law 180 = .ok (.iconst 0, 1) := by decide +kernel
theorem dL_law_181 : decode cL_law 181 = .ok (.invokevirtual 23, 3) := by decide +kernel
theorem dL_law_184 : decode cL_law 184 = .ok (.if_icmp .eq 525, 3) := by decide +kernel
theorem dL_law_187 : decode cL_law 187 = .ok (.iconst 0, 1) := by decide +kernel
theorem dL_law_188 : decode cL_law 188 = .ok (.ireturn, 1) := by decide +kernel
theorem dL_law_189 : decode cL_law 189 = .ok (.aload_n 1, 1) := by decide +kernel
theorem dL_law_190 : decode cL_law 190 = .ok (.aload_n 0, 1) := by decide +kernel
theorem dL_law_191 : decode cL_law 191 = .ok (.iload 4, 2) := by decide +kernel
theorem dL_law_193 : decode cL_law 193 = .ok (.iconst 1, 1) := by decide +kernel
theorem dL_law_194 : decode cL_law 194 = .ok (.iadd, 1) := by decide +kernel
theorem dL_law_195 : decode cL_law 195 = .ok (.iaload, 1) := by decide +kernel
theorem dL_law_196 : decode cL_law 196 = .ok (.ifCond .eq 7, 3) := by decide +kernel
theorem dL_law_199 : decode cL_law 199 = .ok (.iconst 1, 1) := by decide +kernel
theorem dL_law_200 : decode cL_law 200 = .ok (.goto 4, 3) := by decide +kernel
theorem dL_law_203 : decode cL_law 203 = .ok (.iconst 0, 1) := by decide +kernel
theorem dL_law_204 : decode cL_law 204 = .ok (.invokevirtual 24, 3) := by decide +kernel
theorem dL_law_207 : decode cL_law 207 = .ok (.aload_n 2, 1) := by decide +kernel
theorem dL_law_208 : decode cL_law 208 = .ok (.aload_n 0, 1) := by decide +kernel
theorem dL_law_209 : decode cL_law 209 = .ok (.iload 4, 2) := by decide +kernel
theorem dL_law_211 : decode cL_law 211 = .ok (.iconst 1, 1) := by decide +kernel
theorem dL_law_212 : decode cL_law 212 = .ok (.iadd, 1) := by decide +kernel
theorem dL_law_213 : decode cL_law 213 = .ok (.iaload, 1) := by decide +kernel
theorem dL_law_214 : decode cL_law 214 = .ok (.ifCond .eq 7, 3) := by decide +kernel
theorem dL_law_217 : decode cL_law 217 = .ok (.iconst 1, 1) := by decide +kernel
theorem dL_law_218 : decode cL_law 218 = .ok (.goto 4, 3) := by decide +kernel
theorem dL_law_221 : decode cL_law 221 = .ok (.iconst 0, 1) := by decide +kernel
theorem dL_law_222 : decode cL_law 222 = .ok (.invokevirtual 28, 3) := by decide +kernel
theorem dL_law_225 : decode cL_law 225 = .ok (.if_icmp .eq 484, 3) := by decide +kernel
theorem dL_law_228 : decode cL_law 228 = .ok (.iconst 0, 1) := by decide +kernel
theorem dL_law_229 : decode cL_law 229 = .ok (.ireturn, 1) := by decide +kernel
theorem dL_law_230 : decode cL_law 230 = .ok (.aload_n 1, 1) := by decide +kernel
theorem dL_law_231 : decode cL_law 231 = .ok (.aload_n 0, 1) := by decide +kernel
theorem dL_law_232 : decode cL_law 232 = .ok (.iload 4, 2) := by decide +kernel
theorem dL_law_234 : decode cL_law 234 = .ok (.iconst 1, 1) := by decide +kernel
theorem dL_law_235 : decode cL_law 235 = .ok (.iadd, 1) := by decide +kernel
theorem dL_law_236 : decode cL_law 236 = .ok (.iaload, 1) := by decide +kernel
theorem dL_law_237 : decode cL_law 237 = .ok (.invokevirtual 29, 3) := by decide +kernel
theorem dL_law_240 : decode cL_law 240 = .ok (.aload_n 2, 1) := by decide +kernel
theorem dL_law_241 : decode cL_law 241 = .ok (.aload_n 0, 1) := by decide +kernel
theorem dL_law_242 : decode cL_law 242 = .ok (.iload 4, 2) := by decide +kernel
theorem dL_law_244 : decode cL_law 244 = .ok (.iconst 1, 1) := by decide +kernel
theorem dL_law_245 : decode cL_law 245 = .ok (.iadd, 1) := by decide +kernel
theorem dL_law_246 : decode cL_law 246 = .ok (.iaload, 1) := by decide +kernel
theorem dL_law_247 : decode cL_law 247 = .ok (.invokevirtual 33, 3) := by decide +kernel
theorem dL_law_250 : decode cL_law 250 = .ok (.if_icmp .eq 459, 3) := by decide +kernel
theorem dL_law_253 : decode cL_law 253 = .ok (.iconst 0, 1) := by decide +kernel
theorem dL_law_254 : decode cL_law 254 = .ok (.ireturn, 1) := by decide +kernel
theorem dL_law_255 : decode cL_law 255 = .ok (.aload_n 1, 1) := by decide +kernel
theorem dL_law_256 : decode cL_law 256 = .ok (.aload_n 0, 1) := by decide +kernel
theorem dL_law_257 : decode cL_law 257 = .ok (.iload 4, 2) := by decide +kernel
theorem dL_law_259 : decode cL_law 259 = .ok (.iconst 1, 1) := by decide +kernel
theorem dL_law_260 : decode cL_law 260 = .ok (.iadd, 1) := by decide +kernel
theorem dL_law_261 : decode cL_law 261 = .ok (.iaload, 1) := by decide +kernel
theorem dL_law_262 : decode cL_law 262 = .ok (.aload_n 0, 1) := by decide +kernel
theorem dL_law_263 : decode cL_law 263 = .ok (.iload 4, 2) := by decide +kernel
theorem dL_law_265 : decode cL_law 265 = .ok (.iconst 2, 1) := by decide +kernel
theorem dL_law_266 : decode cL_law 266 = .ok (.iadd, 1) := by decide +kernel
theorem dL_law_267 : decode cL_law 267 = .ok (.iaload, 1) := by decide +kernel
theorem dL_law_268 : decode cL_law 268 = .ok (.ifCond .eq 7, 3) := by decide +kernel
theorem dL_law_271 : decode cL_law 271 = .ok (.iconst 1, 1) := by decide +kernel
theorem dL_law_272 : decode cL_law 272 = .ok (.goto 4, 3) := by decide +kernel
theorem dL_law_275 : decode cL_law 275 = .ok (.iconst 0, 1) := by decide +kernel
theorem dL_law_276 : decode cL_law 276 = .ok (.invokevirtual 34, 3) := by decide +kernel
theorem dL_law_279 : decode cL_law 279 = .ok (.aload_n 2, 1) := by decide +kernel
theorem dL_law_280 : decode cL_law 280 = .ok (.aload_n 0, 1) := by decide +kernel
theorem dL_law_281 : decode cL_law 281 = .ok (.iload 4, 2) := by decide +kernel
theorem dL_law_283 : decode cL_law 283 = .ok (.iconst 1, 1) := by decide +kernel
theorem dL_law_284 : decode cL_law 284 = .ok (.iadd, 1) := by decide +kernel
theorem dL_law_285 : decode cL_law 285 = .ok (.iaload, 1) := by decide +kernel
theorem dL_law_286 : decode cL_law 286 = .ok (.aload_n 0, 1) := by decide +kernel
theorem dL_law_287 : decode cL_law 287 = .ok (.iload 4, 2) := by decide +kernel
theorem dL_law_289 : decode cL_law 289 = .ok (.iconst 2, 1) := by decide +kernel
theorem dL_law_290 : decode cL_law 290 = .ok (.iadd, 1) := by decide +kernel
theorem dL_law_291 : decode cL_law 291 = .ok (.iaload, 1) := by decide +kernel
theorem dL_law_292 : decode cL_law 292 = .ok (.ifCond .eq 7, 3) := by decide +kernel
theorem dL_law_295 : decode cL_law 295 = .ok (.iconst 1, 1) := by decide +kernel
theorem dL_law_296 : decode cL_law 296 = .ok (.goto 4, 3) := by decide +kernel
theorem dL_law_299 : decode cL_law 299 = .ok (.iconst 0, 1) := by decide +kernel
theorem dL_law_300 : decode cL_law 300 = .ok (.invokevirtual 38, 3) := by decide +kernel
theorem dL_law_303 : decode cL_law 303 = .ok (.if_icmp .eq 406, 3) := by decide +kernel
theorem dL_law_306 : decode cL_law 306 = .ok (.iconst 0, 1) := by decide +kernel
theorem dL_law_307 : decode cL_law 307 = .ok (.ireturn, 1) := by decide +kernel
theorem dL_law_308 : decode cL_law 308 = .ok (.aload_n 1, 1) := by decide +kernel
theorem dL_law_309 : decode cL_law 309 = .ok (.invokevirtual 39, 3) := by decide +kernel
theorem dL_law_312 : decode cL_law 312 = .ok (.aload_n 2, 1) := by decide +kernel
theorem dL_law_313 : decode cL_law 313 = .ok (.invokevirtual 43, 3) := by decide +kernel
theorem dL_law_316 : decode cL_law 316 = .ok (.if_icmp .eq 393, 3) := by decide +kernel
theorem dL_law_319 : decode cL_law 319 = .ok (.iconst 0, 1) := by decide +kernel
theorem dL_law_320 : decode cL_law 320 = .ok (.ireturn, 1) := by decide +kernel
theorem dL_law_321 : decode cL_law 321 = .ok (.aload_n 1, 1) := by decide +kernel
theorem dL_law_322 : decode cL_law 322 = .ok (.aload_n 0, 1) := by decide +kernel
theorem dL_law_323 : decode cL_law 323 = .ok (.iload 4, 2) := by decide +kernel
theorem dL_law_325 : decode cL_law 325 = .ok (.iconst 1, 1) := by decide +kernel
theorem dL_law_326 : decode cL_law 326 = .ok (.iadd, 1) := by decide +kernel
theorem dL_law_327 : decode cL_law 327 = .ok (.iaload, 1) := by decide +kernel
theorem dL_law_328 : decode cL_law 328 = .ok (.invokevirtual 44, 3) := by decide +kernel
theorem dL_law_331 : decode cL_law 331 = .ok (.aload_n 2, 1) := by decide +kernel
theorem dL_law_332 : decode cL_law 332 = .ok (.aload_n 0, 1) := by decide +kernel
theorem dL_law_333 : decode cL_law 333 = .ok (.iload 4, 2) := by decide +kernel
theorem dL_law_335 : decode cL_law 335 = .ok (.iconst 1, 1) := by decide +kernel
theorem dL_law_336 : decode cL_law 336 = .ok (.iadd, 1) := by decide +kernel
theorem dL_law_337 : decode cL_law 337 = .ok (.iaload, 1) := by decide +kernel
theorem dL_law_338 : decode cL_law 338 = .ok (.invokevirtual 47, 3) := by decide +kernel
theorem dL_law_341 : decode cL_law 341 = .ok (.if_icmp .eq 368, 3) := by decide +kernel
theorem dL_law_344 : decode cL_law 344 = .ok (.iconst 0, 1) := by decide +kernel
theorem dL_law_345 : decode cL_law 345 = .ok (.ireturn, 1) := by decide +kernel
theorem dL_law_346 : decode cL_law 346 = .ok (.aload_n 1, 1) := by decide +kernel
theorem dL_law_347 : decode cL_law 347 = .ok (.aload_n 0, 1) := by decide +kernel
theorem dL_law_348 : decode cL_law 348 = .ok (.iload 4, 2) := by decide +kernel
theorem dL_law_350 : decode cL_law 350 = .ok (.iconst 1, 1) := by decide +kernel
theorem dL_law_351 : decode cL_law 351 = .ok (.iadd, 1) := by decide +kernel
theorem dL_law_352 : decode cL_law 352 = .ok (.iaload, 1) := by decide +kernel
theorem dL_law_353 : decode cL_law 353 = .ok (.aload_n 0, 1) := by decide +kernel
theorem dL_law_354 : decode cL_law 354 = .ok (.iload 4, 2) := by decide +kernel
theorem dL_law_356 : decode cL_law 356 = .ok (.iconst 2, 1) := by decide +kernel
theorem dL_law_357 : decode cL_law 357 = .ok (.iadd, 1) := by decide +kernel
theorem dL_law_358 : decode cL_law 358 = .ok (.iaload, 1) := by decide +kernel
theorem dL_law_359 : decode cL_law 359 = .ok (.i2l, 1) := by decide +kernel
theorem dL_law_360 : decode cL_law 360 = .ok (.bipush 32, 2) := by decide +kernel
theorem dL_law_362 : decode cL_law 362 = .ok (.lshl, 1) := by decide +kernel
theorem dL_law_363 : decode cL_law 363 = .ok (.aload_n 0, 1) := by decide +kernel
theorem dL_law_364 : decode cL_law 364 = .ok (.iload 4, 2) := by decide +kernel
theorem dL_law_366 : decode cL_law 366 = .ok (.iconst 3, 1) := by decide +kernel
theorem dL_law_367 : decode cL_law 367 = .ok (.iadd, 1) := by decide +kernel
theorem dL_law_368 : decode cL_law 368 = .ok (.iaload, 1) := by decide +kernel
theorem dL_law_369 : decode cL_law 369 = .ok (.i2l, 1) := by decide +kernel
theorem dL_law_370 : decode cL_law 370 = .ok (.ldc2_w 48, 3) := by decide +kernel
theorem dL_law_373 : decode cL_law 373 = .ok (.land, 1) := by decide +kernel
theorem dL_law_374 : decode cL_law 374 = .ok (.lor, 1) := by decide +kernel
theorem dL_law_375 : decode cL_law 375 = .ok (.aload_n 0, 1) := by decide +kernel
theorem dL_law_376 : decode cL_law 376 = .ok (.iload 4, 2) := by decide +kernel
theorem dL_law_378 : decode cL_law 378 = .ok (.iconst 4, 1) := by decide +kernel
theorem dL_law_379 : decode cL_law 379 = .ok (.iadd, 1) := by decide +kernel
theorem dL_law_380 : decode cL_law 380 = .ok (.iaload, 1) := by decide +kernel
theorem dL_law_381 : decode cL_law 381 = .ok (.invokevirtual 50, 3) := by decide +kernel
theorem dL_law_384 : decode cL_law 384 = .ok (.aload_n 2, 1) := by decide +kernel
theorem dL_law_385 : decode cL_law 385 = .ok (.aload_n 0, 1) := by decide +kernel
theorem dL_law_386 : decode cL_law 386 = .ok (.iload 4, 2) := by decide +kernel
theorem dL_law_388 : decode cL_law 388 = .ok (.iconst 1, 1) := by decide +kernel
theorem dL_law_389 : decode cL_law 389 = .ok (.iadd, 1) := by decide +kernel
theorem dL_law_390 : decode cL_law 390 = .ok (.iaload, 1) := by decide +kernel
theorem dL_law_391 : decode cL_law 391 = .ok (.aload_n 0, 1) := by decide +kernel
theorem dL_law_392 : decode cL_law 392 = .ok (.iload 4, 2) := by decide +kernel
theorem dL_law_394 : decode cL_law 394 = .ok (.iconst 2, 1) := by decide +kernel
theorem dL_law_395 : decode cL_law 395 = .ok (.iadd, 1) := by decide +kernel
theorem dL_law_396 : decode cL_law 396 = .ok (.iaload, 1) := by decide +kernel
theorem dL_law_397 : decode cL_law 397 = .ok (.i2l, 1) := by decide +kernel
theorem dL_law_398 : decode cL_law 398 = .ok (.bipush 32, 2) := by decide +kernel
theorem dL_law_400 : decode cL_law 400 = .ok (.lshl, 1) := by decide +kernel
theorem dL_law_401 : decode cL_law 401 = .ok (.aload_n 0, 1) := by decide +kernel
theorem dL_law_402 : decode cL_law 402 = .ok (.iload 4, 2) := by decide +kernel
theorem dL_law_404 : decode cL_law 404 = .ok (.iconst 3, 1) := by decide +kernel
theorem dL_law_405 : decode cL_law 405 = .ok (.iadd, 1) := by decide +kernel
theorem dL_law_406 : decode cL_law 406 = .ok (.iaload, 1) := by decide +kernel
theorem dL_law_407 : decode cL_law 407 = .ok (.i2l, 1) := by decide +kernel
theorem dL_law_408 : decode cL_law 408 = .ok (.ldc2_w 48, 3) := by decide +kernel
theorem dL_law_411 : decode cL_law 411 = .ok (.land, 1) := by decide +kernel
theorem dL_law_412 : decode cL_law 412 = .ok (.lor, 1) := by decide +kernel
theorem dL_law_413 : decode cL_law 413 = .ok (.aload_n 0, 1) := by decide +kernel
theorem dL_law_414 : decode cL_law 414 = .ok (.iload 4, 2) := by decide +kernel
theorem dL_law_416 : decode cL_law 416 = .ok (.iconst 4, 1) := by decide +kernel
theorem dL_law_417 : decode cL_law 417 = .ok (.iadd, 1) := by decide +kernel
theorem dL_law_418 : decode cL_law 418 = .ok (.iaload, 1) := by decide +kernel
theorem dL_law_419 : decode cL_law 419 = .ok (.invokevirtual 54, 3) := by decide +kernel
theorem dL_law_422 : decode cL_law 422 = .ok (.if_icmp .eq 287, 3) := by decide +kernel
theorem dL_law_425 : decode cL_law 425 = .ok (.iconst 0, 1) := by decide +kernel
theorem dL_law_426 : decode cL_law 426 = .ok (.ireturn, 1) := by decide +kernel
theorem dL_law_427 : decode cL_law 427 = .ok (.aload_n 1, 1) := by decide +kernel
theorem dL_law_428 : decode cL_law 428 = .ok (.aload_n 0, 1) := by decide +kernel
theorem dL_law_429 : decode cL_law 429 = .ok (.iload 4, 2) := by decide +kernel
theorem dL_law_431 : decode cL_law 431 = .ok (.iconst 1, 1) := by decide +kernel
theorem dL_law_432 : decode cL_law 432 = .ok (.iadd, 1) := by decide +kernel
theorem dL_law_433 : decode cL_law 433 = .ok (.iaload, 1) := by decide +kernel
theorem dL_law_434 : decode cL_law 434 = .ok (.invokevirtual 55, 3) := by decide +kernel
theorem dL_law_437 : decode cL_law 437 = .ok (.aload_n 2, 1) := by decide +kernel
theorem dL_law_438 : decode cL_law 438 = .ok (.aload_n 0, 1) := by decide +kernel
theorem dL_law_439 : decode cL_law 439 = .ok (.iload 4, 2) := by decide +kernel
theorem dL_law_441 : decode cL_law 441 = .ok (.iconst 1, 1) := by decide +kernel
theorem dL_law_442 : decode cL_law 442 = .ok (.iadd, 1) := by decide +kernel
theorem dL_law_443 : decode cL_law 443 = .ok (.iaload, 1) := by decide +kernel
theorem dL_law_444 : decode cL_law 444 = .ok (.invokevirtual 58, 3) := by decide +kernel
theorem dL_law_447 : decode cL_law 447 = .ok (.if_icmp .eq 262, 3) := by decide +kernel
theorem dL_law_450 : decode cL_law 450 = .ok (.iconst 0, 1) := by decide +kernel
theorem dL_law_451 : decode cL_law 451 = .ok (.ireturn, 1) := by decide +kernel
theorem dL_law_452 : decode cL_law 452 = .ok (.aload_n 1, 1) := by decide +kernel
theorem dL_law_453 : decode cL_law 453 = .ok (.invokevirtual 59, 3) := by decide +kernel
theorem dL_law_456 : decode cL_law 456 = .ok (.aload_n 2, 1) := by decide +kernel
theorem dL_law_457 : decode cL_law 457 = .ok (.invokevirtual 62, 3) := by decide +kernel
theorem dL_law_460 : decode cL_law 460 = .ok (.if_icmp .eq 249, 3) := by decide +kernel
theorem dL_law_463 : decode cL_law 463 = .ok (.iconst 0, 1) := by decide +kernel
theorem dL_law_464 : decode cL_law 464 = .ok (.ireturn, 1) := by decide +kernel
theorem dL_law_465 : decode cL_law 465 = .ok (.aload_n 1, 1) := by decide +kernel
theorem dL_law_466 : decode cL_law 466 = .ok (.invokevirtual 63, 3) := by decide +kernel
theorem dL_law_469 : decode cL_law 469 = .ok (.aload_n 2, 1) := by decide +kernel
theorem dL_law_470 : decode cL_law 470 = .ok (.invokevirtual 66, 3) := by decide +kernel
theorem dL_law_473 : decode cL_law 473 = .ok (.if_icmp .eq 236, 3) := by decide +kernel
theorem dL_law_476 : decode cL_law 476 = .ok (.iconst 0, 1) := by decide +kernel
theorem dL_law_477 : decode cL_law 477 = .ok (.ireturn, 1) := by decide +kernel
theorem dL_law_478 : decode cL_law 478 = .ok (.aload_n 1, 1) := by decide +kernel
theorem dL_law_479 : decode cL_law 479 = .ok (.invokevirtual 67, 3) := by decide +kernel
theorem dL_law_482 : decode cL_law 482 = .ok (.aload_n 2, 1) := by decide +kernel
theorem dL_law_483 : decode cL_law 483 = .ok (.invokevirtual 70, 3) := by decide +kernel
theorem dL_law_486 : decode cL_law 486 = .ok (.if_icmp .eq 223, 3) := by decide +kernel
theorem dL_law_489 : decode cL_law 489 = .ok (.iconst 0, 1) := by decide +kernel
theorem dL_law_490 : decode cL_law 490 = .ok (.ireturn, 1) := by decide +kernel
theorem dL_law_491 : decode cL_law 491 = .ok (.aload_n 1, 1) := by decide +kernel
theorem dL_law_492 : decode cL_law 492 = .ok (.aload_n 0, 1) := by decide +kernel
theorem dL_law_493 : decode cL_law 493 = .ok (.iload 4, 2) := by decide +kernel
theorem dL_law_495 : decode cL_law 495 = .ok (.iconst 1, 1) := by decide +kernel
theorem dL_law_496 : decode cL_law 496 = .ok (.iadd, 1) := by decide +kernel
theorem dL_law_497 : decode cL_law 497 = .ok (.iaload, 1) := by decide +kernel
theorem dL_law_498 : decode cL_law 498 = .ok (.aload_n 0, 1) := by decide +kernel
theorem dL_law_499 : decode cL_law 499 = .ok (.iload 4, 2) := by decide +kernel
theorem dL_law_501 : decode cL_law 501 = .ok (.iconst 2, 1) := by decide +kernel
theorem dL_law_502 : decode cL_law 502 = .ok (.iadd, 1) := by decide +kernel
theorem dL_law_503 : decode cL_law 503 = .ok (.iaload, 1) := by decide +kernel
theorem dL_law_504 : decode cL_law 504 = .ok (.aload_n 3, 1) := by decide +kernel
theorem dL_law_505 : decode cL_law 505 = .ok (.invokestatic 71, 3) := by decide +kernel
theorem dL_law_508 : decode cL_law 508 = .ok (.istore 5, 2) := by decide +kernel
theorem dL_law_510 : decode cL_law 510 = .ok (.aload_n 2, 1) := by decide +kernel
theorem dL_law_511 : decode cL_law 511 = .ok (.aload_n 0, 1) := by decide +kernel
theorem dL_law_512 : decode cL_law 512 = .ok (.iload 4, 2) := by decide +kernel
theorem dL_law_514 : decode cL_law 514 = .ok (.iconst 1, 1) := by decide +kernel
theorem dL_law_515 : decode cL_law 515 = .ok (.iadd, 1) := by decide +kernel
theorem dL_law_516 : decode cL_law 516 = .ok (.iaload, 1) := by decide +kernel
theorem dL_law_517 : decode cL_law 517 = .ok (.aload_n 0, 1) := by decide +kernel
theorem dL_law_518 : decode cL_law 518 = .ok (.iload 4, 2) := by decide +kernel
theorem dL_law_520 : decode cL_law 520 = .ok (.iconst 2, 1) := by decide +kernel
theorem dL_law_521 : decode cL_law 521 = .ok (.iadd, 1) := by decide +kernel
theorem dL_law_522 : decode cL_law 522 = .ok (.iaload, 1) := by decide +kernel
theorem dL_law_523 : decode cL_law 523 = .ok (.invokevirtual 76, 3) := by decide +kernel
theorem dL_law_526 : decode cL_law 526 = .ok (.istore 6, 2) := by decide +kernel
theorem dL_law_528 : decode cL_law 528 = .ok (.aload_n 2, 1) := by decide +kernel
theorem dL_law_529 : decode cL_law 529 = .ok (.invokevirtual 77, 3) := by decide +kernel
theorem dL_law_532 : decode cL_law 532 = .ok (.iload 5, 2) := by decide +kernel
theorem dL_law_534 : decode cL_law 534 = .ok (.if_icmp .eq 5, 3) := by decide +kernel
theorem dL_law_537 : decode cL_law 537 = .ok (.iconst 0, 1) := by decide +kernel
theorem dL_law_538 : decode cL_law 538 = .ok (.ireturn, 1) := by decide +kernel
theorem dL_law_539 : decode cL_law 539 = .ok (.iload 5, 2) := by decide +kernel
theorem dL_law_541 : decode cL_law 541 = .ok (.ifCond .ne 15, 3) := by decide +kernel
theorem dL_law_544 : decode cL_law 544 = .ok (.aload_n 3, 1) := by decide +kernel
theorem dL_law_545 : decode cL_law 545 = .ok (.iconst 0, 1) := by decide +kernel
theorem dL_law_546 : decode cL_law 546 = .ok (.laload, 1) := by decide +kernel
theorem dL_law_547 : decode cL_law 547 = .ok (.iload 6, 2) := by decide +kernel
theorem dL_law_549 : decode cL_law 549 = .ok (.i2l, 1) := by decide +kernel
theorem dL_law_550 : decode cL_law 550 = .ok (.lcmp, 1) := by decide +kernel
theorem dL_law_551 : decode cL_law 551 = .ok (.ifCond .eq 5, 3) := by decide +kernel
theorem dL_law_554 : decode cL_law 554 = .ok (.iconst 0, 1) := by decide +kernel
theorem dL_law_555 : decode cL_law 555 = .ok (.ireturn, 1) := by decide +kernel
theorem dL_law_556 : decode cL_law 556 = .ok (.goto 153, 3) := by decide +kernel
theorem dL_law_559 : decode cL_law 559 = .ok (.aload_n 1, 1) := by decide +kernel
theorem dL_law_560 : decode cL_law 560 = .ok (.aload_n 0, 1) := by decide +kernel
theorem dL_law_561 : decode cL_law 561 = .ok (.iload 4, 2) := by decide +kernel
theorem dL_law_563 : decode cL_law 563 = .ok (.iconst 1, 1) := by decide +kernel
theorem dL_law_564 : decode cL_law 564 = .ok (.iadd, 1) := by decide +kernel
theorem dL_law_565 : decode cL_law 565 = .ok (.iaload, 1) := by decide +kernel
theorem dL_law_566 : decode cL_law 566 = .ok (.aload_n 0, 1) := by decide +kernel
theorem dL_law_567 : decode cL_law 567 = .ok (.iload 4, 2) := by decide +kernel
theorem dL_law_569 : decode cL_law 569 = .ok (.iconst 2, 1) := by decide +kernel
theorem dL_law_570 : decode cL_law 570 = .ok (.iadd, 1) := by decide +kernel
theorem dL_law_571 : decode cL_law 571 = .ok (.iaload, 1) := by decide +kernel
theorem dL_law_572 : decode cL_law 572 = .ok (.invokevirtual 80, 3) := by decide +kernel
theorem dL_law_575 : decode cL_law 575 = .ok (.aload_n 2, 1) := by decide +kernel
theorem dL_law_576 : decode cL_law 576 = .ok (.aload_n 0, 1) := by decide +kernel
theorem dL_law_577 : decode cL_law 577 = .ok (.iload 4, 2) := by decide +kernel
theorem dL_law_579 : decode cL_law 579 = .ok (.iconst 1, 1) := by decide +kernel
theorem dL_law_580 : decode cL_law 580 = .ok (.iadd, 1) := by decide +kernel
theorem dL_law_581 : decode cL_law 581 = .ok (.iaload, 1) := by decide +kernel
theorem dL_law_582 : decode cL_law 582 = .ok (.aload_n 0, 1) := by decide +kernel
theorem dL_law_583 : decode cL_law 583 = .ok (.iload 4, 2) := by decide +kernel
theorem dL_law_585 : decode cL_law 585 = .ok (.iconst 2, 1) := by decide +kernel
theorem dL_law_586 : decode cL_law 586 = .ok (.iadd, 1) := by decide +kernel
theorem dL_law_587 : decode cL_law 587 = .ok (.iaload, 1) := by decide +kernel
theorem dL_law_588 : decode cL_law 588 = .ok (.invokevirtual 83, 3) := by decide +kernel
theorem dL_law_591 : decode cL_law 591 = .ok (.if_icmp .eq 118, 3) := by decide +kernel
theorem dL_law_594 : decode cL_law 594 = .ok (.iconst 0, 1) := by decide +kernel
theorem dL_law_595 : decode cL_law 595 = .ok (.ireturn, 1) := by decide +kernel
theorem dL_law_596 : decode cL_law 596 = .ok (.aload_n 1, 1) := by decide +kernel
theorem dL_law_597 : decode cL_law 597 = .ok (.aload_n 0, 1) := by decide +kernel
theorem dL_law_598 : decode cL_law 598 = .ok (.iload 4, 2) := by decide +kernel
theorem dL_law_600 : decode cL_law 600 = .ok (.iconst 1, 1) := by decide +kernel
theorem dL_law_601 : decode cL_law 601 = .ok (.iadd, 1) := by decide +kernel
theorem dL_law_602 : decode cL_law 602 = .ok (.iaload, 1) := by decide +kernel
theorem dL_law_603 : decode cL_law 603 = .ok (.aload_n 0, 1) := by decide +kernel
theorem dL_law_604 : decode cL_law 604 = .ok (.iload 4, 2) := by decide +kernel
theorem dL_law_606 : decode cL_law 606 = .ok (.iconst 2, 1) := by decide +kernel
theorem dL_law_607 : decode cL_law 607 = .ok (.iadd, 1) := by decide +kernel
theorem dL_law_608 : decode cL_law 608 = .ok (.iaload, 1) := by decide +kernel
theorem dL_law_609 : decode cL_law 609 = .ok (.invokevirtual 84, 3) := by decide +kernel
theorem dL_law_612 : decode cL_law 612 = .ok (.aload_n 2, 1) := by decide +kernel
theorem dL_law_613 : decode cL_law 613 = .ok (.aload_n 0, 1) := by decide +kernel
theorem dL_law_614 : decode cL_law 614 = .ok (.iload 4, 2) := by decide +kernel
theorem dL_law_616 : decode cL_law 616 = .ok (.iconst 1, 1) := by decide +kernel
theorem dL_law_617 : decode cL_law 617 = .ok (.iadd, 1) := by decide +kernel
theorem dL_law_618 : decode cL_law 618 = .ok (.iaload, 1) := by decide +kernel
theorem dL_law_619 : decode cL_law 619 = .ok (.aload_n 0, 1) := by decide +kernel
theorem dL_law_620 : decode cL_law 620 = .ok (.iload 4, 2) := by decide +kernel
theorem dL_law_622 : decode cL_law 622 = .ok (.iconst 2, 1) := by decide +kernel
theorem dL_law_623 : decode cL_law 623 = .ok (.iadd, 1) := by decide +kernel
theorem dL_law_624 : decode cL_law 624 = .ok (.iaload, 1) := by decide +kernel
theorem dL_law_625 : decode cL_law 625 = .ok (.invokevirtual 87, 3) := by decide +kernel
theorem dL_law_628 : decode cL_law 628 = .ok (.if_icmp .eq 81, 3) := by decide +kernel
theorem dL_law_631 : decode cL_law 631 = .ok (.iconst 0, 1) := by decide +kernel
theorem dL_law_632 : decode cL_law 632 = .ok (.ireturn, 1) := by decide +kernel
theorem dL_law_633 : decode cL_law 633 = .ok (.aload_n 1, 1) := by decide +kernel
theorem dL_law_634 : decode cL_law 634 = .ok (.aload_n 0, 1) := by decide +kernel
theorem dL_law_635 : decode cL_law 635 = .ok (.iload 4, 2) := by decide +kernel
theorem dL_law_637 : decode cL_law 637 = .ok (.iconst 1, 1) := by decide +kernel
theorem dL_law_638 : decode cL_law 638 = .ok (.iadd, 1) := by decide +kernel
theorem dL_law_639 : decode cL_law 639 = .ok (.iaload, 1) := by decide +kernel
theorem dL_law_640 : decode cL_law 640 = .ok (.invokevirtual 88, 3) := by decide +kernel
theorem dL_law_643 : decode cL_law 643 = .ok (.aload_n 2, 1) := by decide +kernel
theorem dL_law_644 : decode cL_law 644 = .ok (.aload_n 0, 1) := by decide +kernel
theorem dL_law_645 : decode cL_law 645 = .ok (.iload 4, 2) := by decide +kernel
theorem dL_law_647 : decode cL_law 647 = .ok (.iconst 1, 1) := by decide +kernel
theorem dL_law_648 : decode cL_law 648 = .ok (.iadd, 1) := by decide +kernel
theorem dL_law_649 : decode cL_law 649 = .ok (.iaload, 1) := by decide +kernel
theorem dL_law_650 : decode cL_law 650 = .ok (.invokevirtual 91, 3) := by decide +kernel
theorem dL_law_653 : decode cL_law 653 = .ok (.if_icmp .eq 56, 3) := by decide +kernel
theorem dL_law_656 : decode cL_law 656 = .ok (.iconst 0, 1) := by decide +kernel
theorem dL_law_657 : decode cL_law 657 = .ok (.ireturn, 1) := by decide +kernel
theorem dL_law_658 : decode cL_law 658 = .ok (.aload_n 1, 1) := by decide +kernel
theorem dL_law_659 : decode cL_law 659 = .ok (.invokevirtual 92, 3) := by decide +kernel
theorem dL_law_662 : decode cL_law 662 = .ok (.aload_n 2, 1) := by decide +kernel
theorem dL_law_663 : decode cL_law 663 = .ok (.invokevirtual 95, 3) := by decide +kernel
theorem dL_law_666 : decode cL_law 666 = .ok (.if_icmp .eq 43, 3) := by decide +kernel
theorem dL_law_669 : decode cL_law 669 = .ok (.iconst 0, 1) := by decide +kernel
theorem dL_law_670 : decode cL_law 670 = .ok (.ireturn, 1) := by decide +kernel
theorem dL_law_671 : decode cL_law 671 = .ok (.aload_n 1, 1) := by decide +kernel
theorem dL_law_672 : decode cL_law 672 = .ok (.aload_n 0, 1) := by decide +kernel
theorem dL_law_673 : decode cL_law 673 = .ok (.iload 4, 2) := by decide +kernel
theorem dL_law_675 : decode cL_law 675 = .ok (.iconst 1, 1) := by decide +kernel
theorem dL_law_676 : decode cL_law 676 = .ok (.iadd, 1) := by decide +kernel
theorem dL_law_677 : decode cL_law 677 = .ok (.iaload, 1) := by decide +kernel
theorem dL_law_678 : decode cL_law 678 = .ok (.invokevirtual 96, 3) := by decide +kernel
theorem dL_law_681 : decode cL_law 681 = .ok (.aload_n 2, 1) := by decide +kernel
theorem dL_law_682 : decode cL_law 682 = .ok (.aload_n 0, 1) := by decide +kernel
theorem dL_law_683 : decode cL_law 683 = .ok (.iload 4, 2) := by decide +kernel
theorem dL_law_685 : decode cL_law 685 = .ok (.iconst 1, 1) := by decide +kernel
theorem dL_law_686 : decode cL_law 686 = .ok (.iadd, 1) := by decide +kernel
theorem dL_law_687 : decode cL_law 687 = .ok (.iaload, 1) := by decide +kernel
theorem dL_law_688 : decode cL_law 688 = .ok (.invokevirtual 99, 3) := by decide +kernel
theorem dL_law_691 : decode cL_law 691 = .ok (.if_icmp .eq 18, 3) := by decide +kernel
theorem dL_law_694 : decode cL_law 694 = .ok (.iconst 0, 1) := by decide +kernel
theorem dL_law_695 : decode cL_law 695 = .ok (.ireturn, 1) := by decide +kernel
theorem dL_law_696 : decode cL_law 696 = .ok (.aload_n 1, 1) := by decide +kernel
theorem dL_law_697 : decode cL_law 697 = .ok (.invokevirtual 100, 3) := by decide +kernel
theorem dL_law_700 : decode cL_law 700 = .ok (.aload_n 2, 1) := by decide +kernel
theorem dL_law_701 : decode cL_law 701 = .ok (.invokevirtual 103, 3) := by decide +kernel
theorem dL_law_704 : decode cL_law 704 = .ok (.if_icmp .eq 5, 3) := by decide +kernel
theorem dL_law_707 : decode cL_law 707 = .ok (.iconst 0, 1) := by decide +kernel
theorem dL_law_708 : decode cL_law 708 = .ok (.ireturn, 1) := by decide +kernel
theorem dL_law_709 : decode cL_law 709 = .ok (.iinc 4 5, 3) := by decide +kernel
theorem dL_law_712 : decode cL_law 712 = .ok (.goto (-689), 3) := by decide +kernel
theorem dL_law_715 : decode cL_law 715 = .ok (.iconst 1, 1) := by decide +kernel
theorem dL_law_716 : decode cL_law 716 = .ok (.ireturn, 1) := by decide +kernel
end
section
theorem dX0_init_0 : decode cX0_init 0 = .ok (.aload_n 0, 1) := by decide +kernel
theorem dX0_init_1 : decode cX0_init 1 = .ok (.invokespecial 3, 3) := by decide +kernel
theorem dX0_init_4 : decode cX0_init 4 = .ok (.aload_n 0, 1) := by decide +kernel
theorem dX0_init_5 : decode cX0_init 5 = .ok (.sipush 256, 3) := by decide +kernel
theorem dX0_init_8 : decode cX0_init 8 = .ok (.newarray .int, 2) := by decide +kernel
theorem dX0_init_10 : decode cX0_init 10 = .ok (.putfield 9, 3) := by decide +kernel
theorem dX0_init_13 : decode cX0_init 13 = .ok (.aload_n 0, 1) := by decide +kernel
theorem dX0_init_14 : decode cX0_init 14 = .ok (.sipush 5120, 3) := by decide +kernel
theorem dX0_init_17 : decode cX0_init 17 = .ok (.newarray .int, 2) := by decide +kernel
theorem dX0_init_19 : decode cX0_init 19 = .ok (.putfield 15, 3) := by decide +kernel
theorem dX0_init_22 : decode cX0_init 22 = .ok (.iconst 0, 1) := by decide +kernel
theorem dX0_init_23 : decode cX0_init 23 = .ok (.istore_n 1, 1) := by decide +kernel
theorem dX0_init_24 : decode cX0_init 24 = .ok (.iload_n 1, 1) := by decide +kernel
theorem dX0_init_25 : decode cX0_init 25 = .ok (.sipush 256, 3) := by decide +kernel
theorem dX0_init_28 : decode cX0_init 28 = .ok (.if_icmp .ge 29, 3) := by decide +kernel
theorem dX0_init_31 : decode cX0_init 31 = .ok (.aload_n 0, 1) := by decide +kernel
theorem dX0_init_32 : decode cX0_init 32 = .ok (.getfield 9, 3) := by decide +kernel
theorem dX0_init_35 : decode cX0_init 35 = .ok (.iload_n 1, 1) := by decide +kernel
theorem dX0_init_36 : decode cX0_init 36 = .ok (.iload_n 1, 1) := by decide +kernel
theorem dX0_init_37 : decode cX0_init 37 = .ok (.invokestatic 18, 3) := by decide +kernel
theorem dX0_init_40 : decode cX0_init 40 = .ok (.ifCond .eq 8, 3) := by decide +kernel
theorem dX0_init_43 : decode cX0_init 43 = .ok (.bipush 11, 2) := by decide +kernel
theorem dX0_init_45 : decode cX0_init 45 = .ok (.goto 5, 3) := by decide +kernel
theorem dX0_init_48 : decode cX0_init 48 = .ok (.bipush 12, 2) := by decide +kernel
theorem dX0_init_50 : decode cX0_init 50 = .ok (.iastore, 1) := by decide +kernel
theorem dX0_init_51 : decode cX0_init 51 = .ok (.iinc 1 1, 3) := by decide +kernel
theorem dX0_init_54 : decode cX0_init 54 = .ok (.goto (-30), 3) := by decide +kernel
theorem dX0_init_57 : decode cX0_init 57 = .ok (.aload_n 0, 1) := by decide +kernel
theorem dX0_init_58 : decode cX0_init 58 = .ok (.getfield 9, 3) := by decide +kernel
theorem dX0_init_61 : decode cX0_init 61 = .ok (.bipush 92, 2) := by decide +kernel
theorem dX0_init_63 : decode cX0_init 63 = .ok (.iconst 0, 1) := by decide +kernel
theorem dX0_init_64 : decode cX0_init 64 = .ok (.iastore, 1) := by decide +kernel
theorem dX0_init_65 : decode cX0_init 65 = .ok (.aload_n 0, 1) := by decide +kernel
theorem dX0_init_66 : decode cX0_init 66 = .ok (.getfield 9, 3) := by decide +kernel
theorem dX0_init_69 : decode cX0_init 69 = .ok (.bipush 123, 2) := by decide +kernel
theorem dX0_init_71 : decode cX0_init 71 = .ok (.iconst 1, 1) := by decide +kernel
theorem dX0_init_72 : decode cX0_init 72 = .ok (.iastore, 1) := by decide +kernel
theorem dX0_init_73 : decode cX0_init 73 = .ok (.aload_n 0, 1) := by decide +kernel
theorem dX0_init_74 : decode cX0_init 74 = .ok (.getfield 9, 3) := by decide +kernel
theorem dX0_init_77 : decode cX0_init 77 = .ok (.bipush 125, 2) := by decide +kernel
theorem dX0_init_79 : decode cX0_init 79 = .ok (.iconst 2, 1) := by decide +kernel
theorem dX0_init_80 : decode cX0_init 80 = .ok (.iastore, 1) := by decide +kernel
theorem dX0_init_81 : decode cX0_init 81 = .ok (.aload_n 0, 1) := by decide +kernel
theorem dX0_init_82 : decode cX0_init 82 = .ok (.getfield 9, 3) := by decide +kernel
theorem dX0_init_85 : decode cX0_init 85 = .ok (.bipush 13, 2) := by decide +kernel
theorem dX0_init_87 : decode cX0_init 87 = .ok (.iconst 5, 1) := by decide +kernel
theorem dX0_init_88 : decode cX0_init 88 = .ok (.iastore, 1) := by decide +kernel
theorem dX0_init_89 : decode cX0_init 89 = .ok (.aload_n 0, 1) := by decide +kernel
theorem dX0_init_90 : decode cX0_init 90 = .ok (.getfield 9, 3) := by decide +kernel
theorem dX0_init_93 : decode cX0_init 93 = .ok (.bipush 94, 2) := by decide +kernel
theorem dX0_init_95 : decode cX0_init 95 = .ok (.bipush 7, 2) := by decide +kernel
theorem dX0_init_97 : decode cX0_init 97 = .ok (.iastore, 1) := by decide +kernel
theorem dX0_init_98 : decode cX0_init 98 = .ok (.aload_n 0, 1) := by decide +kernel
theorem dX0_init_99 : decode cX0_init 99 = .ok (.getfield 9, 3) := by decide +kernel
theorem dX0_init_102 : decode cX0_init 102 = .ok (.iconst 0, 1) := by decide +kernel
theorem dX0_init_103 : decode cX0_init 103 = .ok (.bipush 9, 2) := by decide +kernel
theorem dX0_init_105 : decode cX0_init 105 = .ok (.iastore, 1) := by decide +kernel
theorem dX0_init_106 : decode cX0_init 106 = .ok (.aload_n 0, 1) := by decide +kernel
theorem dX0_init_107 : decode cX0_init 107 = .ok (.getfield 9, 3) := by decide +kernel
theorem dX0_init_110 : decode cX0_init 110 = .ok (.bipush 32, 2) := by decide +kernel
theorem dX0_init_112 : decode cX0_init 112 = .ok (.bipush 10, 2) := by decide +kernel
theorem dX0_init_114 : decode cX0_init 114 = .ok (.iastore, 1) := by decide +kernel
theorem dX0_init_115 : decode cX0_init 115 = .ok (.aload_n 0, 1) := by decide +kernel
theorem dX0_init_116 : decode cX0_init 116 = .ok (.getfield 9, 3) := by decide +kernel
theorem dX0_init_119 : decode cX0_init 119 = .ok (.bipush 126, 2) := by decide +kernel
theorem dX0_init_121 : decode cX0_init 121 = .ok (.bipush 13, 2) := by decide +kernel
theorem dX0_init_123 : decode cX0_init 123 = .ok (.iastore, 1) := by decide +kernel
theorem dX0_init_124 : decode cX0_init 124 = .ok (.aload_n 0, 1) := by decide +kernel
theorem dX0_init_125 : decode cX0_init 125 = .ok (.getfield 9, 3) := by decide +kernel
theorem dX0_init_128 : decode cX0_init 128 = .ok (.bipush 37, 2) := by decide +kernel
theorem dX0_init_130 : decode cX0_init 130 = .ok (.bipush 14, 2) := by decide +kernel
theorem dX0_init_132 : decode cX0_init 132 = .ok (.iastore, 1) := by decide +kernel
theorem dX0_init_133 : decode cX0_init 133 = .ok (.aload_n 0, 1) := by decide +kernel
theorem dX0_init_134 : decode cX0_init 134 = .ok (.getfield 9, 3) := by decide +kernel
theorem dX0_init_137 : decode cX0_init 137 = .ok (.bipush 127, 2) := by decide +kernel
theorem dX0_init_139 : decode cX0_init 139 = .ok (.bipush 15, 2) := by decide +kernel
theorem dX0_init_141 : decode cX0_init 141 = .ok (.iastore, 1) := by decide +kernel
theorem dX0_init_142 : decode cX0_init 142 = .ok (.return_, 1) := by decide +kernel
theorem dX0_isLatinLetter_0 : decode cX0_isLatinLetter 0 = .ok (.iload_n 0, 1) := by decide +kernel
theorem dX0_isLatinLetter_1 : decode cX0_isLatinLetter 1 = .ok (.bipush 65, 2) := by decide +kernel
theorem dX0_isLatinLetter_3 : decode cX0_isLatinLetter 3 = .ok (.if_icmp .lt 9, 3) := by decide +kernel
theorem dX0_isLatinLetter_6 : decode cX0_isLatinLetter 6 = .ok (.iload_n 0, 1) := by decide +kernel
theorem dX0_isLatinLetter_7 : decode cX0_isLatinLetter 7 = .ok (.bipush 90, 2) := by decide +kernel
theorem dX0_isLatinLetter_9 : decode cX0_isLatinLetter 9 = .ok (.if_icmp .le 15, 3) := by decide +kernel
theorem dX0_isLatinLetter_12 : decode cX0_isLatinLetter 12 = .ok (.iload_n 0, 1) := by decide +kernel
theorem dX0_isLatinLetter_13 : decode cX0_isLatinLetter 13 = .ok (.bipush 97, 2) := by decide +kernel
theorem dX0_isLatinLetter_15 : decode cX0_isLatinLetter 15 = .ok (.if_icmp .lt 13, 3) := by decide +kernel
theorem dX0_isLatinLetter_18 : decode cX0_isLatinLetter 18 = .ok (.iload_n 0, 1) := by decide +kernel
theorem dX0_isLatinLetter_19 : decode cX0_isLatinLetter 19 = .ok (.bipush 122, 2) := by decide +kernel
theorem dX0_isLatinLetter_21 : decode cX0_isLatinLetter 21 = .ok (.if_icmp .gt 7, 3) := by decide +kernel
theorem dX0_isLatinLetter_24 : decode cX0_isLatinLetter 24 = .ok (.iconst 1, 1) := by decide +kernel
theorem dX0_isLatinLetter_25 : decode cX0_isLatinLetter 25 = .ok (.goto 4, 3) := by decide +kernel
theorem dX0_isLatinLetter_28 : decode cX0_isLatinLetter 28 = .ok (.iconst 0, 1) := by decide +kernel
theorem dX0_isLatinLetter_29 : decode cX0_isLatinLetter 29 = .ok (.ireturn, 1) := by decide +kernel
theorem dX0_at_0 : decode cX0_at 0 = .ok (.iload_n 1, 1) := by decide +kernel
theorem dX0_at_1 : decode cX0_at 1 = .ok (.ifCond .lt 21, 3) := by decide +kernel
theorem dX0_at_4 : decode cX0_at 4 = .ok (.iload_n 1, 1) := by decide +kernel
theorem dX0_at_5 : decode cX0_at 5 = .ok (.aload_n 0, 1) := by decide +kernel
theorem dX0_at_6 : decode cX0_at 6 = .ok (.getfield 9, 3) := by decide +kernel
theorem dX0_at_9 : decode cX0_at 9 = .ok (.arraylength, 1) := by decide +kernel
theorem dX0_at_10 : decode cX0_at 10 = .ok (.if_icmp .ge 12, 3) := by decide +kernel
theorem dX0_at_13 : decode cX0_at 13 = .ok (.aload_n 0, 1) := by decide +kernel
theorem dX0_at_14 : decode cX0_at 14 = .ok (.getfield 9, 3) := by decide +kernel
theorem dX0_at_17 : decode cX0_at 17 = .ok (.iload_n 1, 1) := by decide +kernel
theorem dX0_at_18 : decode cX0_at 18 = .ok (.iaload, 1) := by decide +kernel
theorem dX0_at_19 : decode cX0_at 19 = .ok (.goto 4, 3) := by decide +kernel
theorem dX0_at_22 : decode cX0_at 22 = .ok (.iconst (-1), 1) := by decide +kernel
theorem dX0_at_23 : decode cX0_at 23 = .ok (.ireturn, 1) := by decide +kernel
theorem dX0_setHere_0 : decode cX0_setHere 0 = .ok (.iload_n 1, 1) := by decide +kernel
theorem dX0_setHere_1 : decode cX0_setHere 1 = .ok (.ifCond .lt 19, 3) := by decide +kernel
theorem dX0_setHere_4 : decode cX0_setHere 4 = .ok (.iload_n 1, 1) := by decide +kernel
theorem dX0_setHere_5 : decode cX0_setHere 5 = .ok (.aload_n 0, 1) := by decide +kernel
theorem dX0_setHere_6 : decode cX0_setHere 6 = .ok (.getfield 9, 3) := by decide +kernel
theorem dX0_setHere_9 : decode cX0_setHere 9 = .ok (.arraylength, 1) := by decide +kernel
theorem dX0_setHere_10 : decode cX0_setHere 10 = .ok (.if_icmp .ge 10, 3) := by decide +kernel
theorem dX0_setHere_13 : decode cX0_setHere 13 = .ok (.aload_n 0, 1) := by decide +kernel
theorem dX0_setHere_14 : decode cX0_setHere 14 = .ok (.getfield 9, 3) := by decide +kernel
theorem dX0_setHere_17 : decode cX0_setHere 17 = .ok (.iload_n 1, 1) := by decide +kernel
theorem dX0_setHere_18 : decode cX0_setHere 18 = .ok (.iload_n 2, 1) := by decide +kernel
theorem dX0_setHere_19 : decode cX0_setHere 19 = .ok (.iastore, 1) := by decide +kernel
theorem dX0_setHere_20 : decode cX0_setHere 20 = .ok (.return_, 1) := by decide +kernel
theorem dX0_setEverywhere_0 : decode cX0_setEverywhere 0 = .ok (.aload_n 0, 1) := by decide +kernel
theorem dX0_setEverywhere_1 : decode cX0_setEverywhere 1 = .ok (.iload_n 1, 1) := by decide +kernel
theorem dX0_setEverywhere_2 : decode cX0_setEverywhere 2 = .ok (.iload_n 2, 1) := by decide +kernel
theorem dX0_setEverywhere_3 : decode cX0_setEverywhere 3 = .ok (.invokevirtual 22, 3) := by decide +kernel
theorem dX0_setEverywhere_6 : decode cX0_setEverywhere 6 = .ok (.iload_n 1, 1) := by decide +kernel
theorem dX0_setEverywhere_7 : decode cX0_setEverywhere 7 = .ok (.ifCond .lt 10, 3) := by decide +kernel
theorem dX0_setEverywhere_10 : decode cX0_setEverywhere 10 = .ok (.iload_n 1, 1) := by decide +kernel
theorem dX0_setEverywhere_11 : decode cX0_setEverywhere 11 = .ok (.sipush 256, 3) := by decide +kernel
theorem dX0_setEverywhere_14 : decode cX0_setEverywhere 14 = .ok (.if_icmp .lt 4, 3) := by decide +kernel
theorem dX0_setEverywhere_17 : decode cX0_setEverywhere 17 = .ok (.return_, 1) := by decide +kernel
theorem dX0_setEverywhere_18 : decode cX0_setEverywhere 18 = .ok (.iload_n 1, 1) := by decide +kernel
theorem dX0_setEverywhere_19 : decode cX0_setEverywhere 19 = .ok (.istore_n 3, 1) := by decide +kernel
theorem dX0_setEverywhere_20 : decode cX0_setEverywhere 20 = .ok (.iload_n 3, 1) := by decide +kernel
theorem dX0_setEverywhere_21 : decode cX0_setEverywhere 21 = .ok (.aload_n 0, 1) := by decide +kernel
theorem dX0_setEverywhere_22 : decode cX0_setEverywhere 22 = .ok (.getfield 26, 3) := by decide +kernel
theorem dX0_setEverywhere_25 : decode cX0_setEverywhere 25 = .ok (.sipush 256, 3) := by decide +kernel
theorem dX0_setEverywhere_28 : decode cX0_setEverywhere 28 = .ok (.imul, 1) := by decide +kernel
theorem dX0_setEverywhere_29 : decode cX0_setEverywhere 29 = .ok (.if_icmp .ge 28, 3) := by decide +kernel
theorem dX0_setEverywhere_32 : decode cX0_setEverywhere 32 = .ok (.iload_n 3, 1) := by decide +kernel
theorem dX0_setEverywhere_33 : decode cX0_setEverywhere 33 = .ok (.aload_n 0, 1) := by decide +kernel
theorem dX0_setEverywhere_34 : decode cX0_setEverywhere 34 = .ok (.getfield 15, 3) := by decide +kernel
theorem dX0_setEverywhere_37 : decode cX0_setEverywhere 37 = .ok (.arraylength, 1) := by decide +kernel
theorem dX0_setEverywhere_38 : decode cX0_setEverywhere 38 = .ok (.if_icmp .ge 19, 3) := by decide +kernel
theorem dX0_setEverywhere_41 : decode cX0_setEverywhere 41 = .ok (.aload_n 0, 1) := by decide +kernel
theorem dX0_setEverywhere_42 : decode cX0_setEverywhere 42 = .ok (.getfield 15, 3) := by decide +kernel
theorem dX0_setEverywhere_45 : decode cX0_setEverywhere 45 = .ok (.iload_n 3, 1) := by decide +kernel
theorem dX0_setEverywhere_46 : decode cX0_setEverywhere 46 = .ok (.iload_n 2, 1) := by decide +kernel
theorem dX0_setEverywhere_47 : decode cX0_setEverywhere 47 = .ok (.iastore, 1) := by decide +kernel
theorem dX0_setEverywhere_48 : decode cX0_setEverywhere 48 = .ok (.iinc 3 256, 6) := by decide +kernel
theorem dX0_setEverywhere_54 : decode cX0_setEverywhere 54 = .ok (.goto (-34), 3) := by decide +kernel
theorem dX0_setEverywhere_57 : decode cX0_setEverywhere 57 = .ok (.return_, 1) := by decide +kernel
theorem dX0_beginGroup_0 : decode cX0_beginGroup 0 = .ok (.aload_n 0, 1) := by decide +kernel
theorem dX0_beginGroup_1 : decode cX0_beginGroup 1 = .ok (.getfield 26, 3) := by decide +kernel
theorem dX0_beginGroup_4 : decode cX0_beginGroup 4 = .ok (.ifCond .lt 12, 3) := by decide +kernel
theorem dX0_beginGroup_7 : decode cX0_beginGroup 7 = .ok (.aload_n 0, 1) := by decide +kernel
theorem dX0_beginGroup_8 : decode cX0_beginGroup 8 = .ok (.getfield 26, 3) := by decide +kernel
theorem dX0_beginGroup_11 : decode cX0_beginGroup 11 = .ok (.bipush 20, 2) := by decide +kernel
theorem dX0_beginGroup_13 : decode cX0_beginGroup 13 = .ok (.if_icmp .lt 5, 3) := by decide +kernel
theorem dX0_beginGroup_16 : decode cX0_beginGroup 16 = .ok (.iconst 0, 1) := by decide +kernel
theorem dX0_beginGroup_17 : decode cX0_beginGroup 17 = .ok (.ireturn, 1) := by decide +kernel
theorem dX0_beginGroup_18 : decode cX0_beginGroup 18 = .ok (.aload_n 0, 1) := by decide +kernel
theorem dX0_beginGroup_19 : decode cX0_beginGroup 19 = .ok (.getfield 9, 3) := by decide +kernel
theorem dX0_beginGroup_22 : decode cX0_beginGroup 22 = .ok (.iconst 0, 1) := by decide +kernel
theorem dX0_beginGroup_23 : decode cX0_beginGroup 23 = .ok (.aload_n 0, 1) := by decide +kernel
theorem dX0_beginGroup_24 : decode cX0_beginGroup 24 = .ok (.getfield 15, 3) := by decide +kernel
theorem dX0_beginGroup_27 : decode cX0_beginGroup 27 = .ok (.aload_n 0, 1) := by decide +kernel
theorem dX0_beginGroup_28 : decode cX0_beginGroup 28 = .ok (.getfield 26, 3) := by decide +kernel
theorem dX0_beginGroup_31 : decode cX0_beginGroup 31 = .ok (.sipush 256, 3) := by decide +kernel
theorem dX0_beginGroup_34 : decode cX0_beginGroup 34 = .ok (.imul, 1) := by decide +kernel
theorem dX0_beginGroup_35 : decode cX0_beginGroup 35 = .ok (.sipush 256, 3) := by decide +kernel
theorem dX0_beginGroup_38 : decode cX0_beginGroup 38 = .ok (.invokestatic 30, 3) := by decide +kernel
theorem dX0_beginGroup_41 : decode cX0_beginGroup 41 = .ok (.aload_n 0, 1) := by decide +kernel
theorem dX0_beginGroup_42 : decode cX0_beginGroup 42 = .ok (.dup, 1) := by decide +kernel
theorem dX0_beginGroup_43 : decode cX0_beginGroup 43 = .ok (.getfield 26, 3) := by decide +kernel
theorem dX0_beginGroup_46 : decode cX0_beginGroup 46 = .ok (.iconst 1, 1) := by decide +kernel
theorem dX0_beginGroup_47 : decode cX0_beginGroup 47 = .ok (.iadd, 1) := by decide +kernel
theorem dX0_beginGroup_48 : decode cX0_beginGroup 48 = .ok (.putfield 26, 3) := by decide +kernel
theorem dX0_beginGroup_51 : decode cX0_beginGroup 51 = .ok (.iconst 1, 1) := by decide +kernel
theorem dX0_beginGroup_52 : decode cX0_beginGroup 52 = .ok (.ireturn, 1) := by decide +kernel
theorem dX0_endGroup_0 : decode cX0_endGroup 0 = .ok (.aload_n 0, 1) := by decide +kernel
theorem dX0_endGroup_1 : decode cX0_endGroup 1 = .ok (.getfield 26, 3) := by decide +kernel
theorem dX0_endGroup_4 : decode cX0_endGroup 4 = .ok (.ifCond .le 12, 3) := by decide +kernel
theorem dX0_endGroup_7 : decode cX0_endGroup 7 = .ok (.aload_n 0, 1) := by decide +kernel
theorem dX0_endGroup_8 : decode cX0_endGroup 8 = .ok (.getfield 26, 3) := by decide +kernel
theorem dX0_endGroup_11 : decode cX0_endGroup 11 = .ok (.bipush 20, 2) := by decide +kernel
theorem dX0_endGroup_13 : decode cX0_endGroup 13 = .ok (.if_icmp .le 5, 3) := by decide +kernel
theorem dX0_endGroup_16 : decode cX0_endGroup 16 = .ok (.iconst 0, 1) := by decide +kernel
theorem dX0_endGroup_17 : decode cX0_endGroup 17 = .ok (.ireturn, 1) := by decide +kernel
theorem dX0_endGroup_18 : decode cX0_endGroup 18 = .ok (.aload_n 0, 1) := by decide +kernel
theorem dX0_endGroup_19 : decode cX0_endGroup 19 = .ok (.dup, 1) := by decide +kernel
theorem dX0_endGroup_20 : decode cX0_endGroup 20 = .ok (.getfield 26, 3) := by decide +kernel
theorem dX0_endGroup_23 : decode cX0_endGroup 23 = .ok (.iconst 1, 1) := by decide +kernel
theorem dX0_endGroup_24 : decode cX0_endGroup 24 = .ok (.isub, 1) := by decide +kernel
theorem dX0_endGroup_25 : decode cX0_endGroup 25 = .ok (.putfield 26, 3) := by decide +kernel
theorem dX0_endGroup_28 : decode cX0_endGroup 28 = .ok (.aload_n 0, 1) := by decide +kernel
theorem dX0_endGroup_29 : decode cX0_endGroup 29 = .ok (.getfield 15, 3) := by decide +kernel
theorem dX0_endGroup_32 : decode cX0_endGroup 32 = .ok (.aload_n 0, 1) := by decide +kernel
theorem dX0_endGroup_33 : decode cX0_endGroup 33 = .ok (.getfield 26, 3) := by decide +kernel
theorem dX0_endGroup_36 : decode cX0_endGroup 36 = .ok (.sipush 256, 3) := by decide +kernel
theorem dX0_endGroup_39 : decode cX0_endGroup 39 = .ok (.imul, 1) := by decide +kernel
theorem dX0_endGroup_40 : decode cX0_endGroup 40 = .ok (.aload_n 0, 1) := by decide +kernel
theorem dX0_endGroup_41 : decode cX0_endGroup 41 = .ok (.getfield 9, 3) := by decide +kernel
theorem dX0_endGroup_44 : decode cX0_endGroup 44 = .ok (.iconst 0, 1) := by decide +kernel
theorem dX0_endGroup_45 : decode cX0_endGroup 45 = .ok (.sipush 256, 3) := by decide +kernel
theorem dX0_endGroup_48 : decode cX0_endGroup 48 = .ok (.invokestatic 30, 3) := by decide +kernel
theorem dX0_endGroup_51 : decode cX0_endGroup 51 = .ok (.iconst 1, 1) := by decide +kernel
theorem dX0_endGroup_52 : decode cX0_endGroup 52 = .ok (.ireturn, 1) := by decide +kernel
end
section
theorem dX1_init_0 : decode cX1_init 0 = .ok (.aload_n 0, 1) := by decide +kernel
theorem dX1_init_1 : decode cX1_init 1 = .ok (.invokespecial 3, 3) := by decide +kernel
theorem dX1_init_4 : decode cX1_init 4 = .ok (.aload_n 0, 1) := by decide +kernel
theorem dX1_init_5 : decode cX1_init 5 = .ok (.bipush 121, 2) := by decide +kernel
theorem dX1_init_7 : decode cX1_init 7 = .ok (.newarray .int, 2) := by decide +kernel
theorem dX1_init_9 : decode cX1_init 9 = .ok (.putfield 9, 3) := by decide +kernel
theorem dX1_init_12 : decode cX1_init 12 = .ok (.return_, 1) := by decide +kernel
theorem dX1_start_0 : decode cX1_start 0 = .ok (.aload_n 0, 1) := by decide +kernel
theorem dX1_start_1 : decode cX1_start 1 = .ok (.iload_n 1, 1) := by decide +kernel
theorem dX1_start_2 : decode cX1_start 2 = .ok (.putfield 15, 3) := by decide +kernel
theorem dX1_start_5 : decode cX1_start 5 = .ok (.aload_n 0, 1) := by decide +kernel
theorem dX1_start_6 : decode cX1_start 6 = .ok (.iconst 0, 1) := by decide +kernel
theorem dX1_start_7 : decode cX1_start 7 = .ok (.putfield 19, 3) := by decide +kernel
theorem dX1_start_10 : decode cX1_start 10 = .ok (.aload_n 0, 1) := by decide +kernel
theorem dX1_start_11 : decode cX1_start 11 = .ok (.iconst 0, 1) := by decide +kernel
theorem dX1_start_12 : decode cX1_start 12 = .ok (.putfield 22, 3) := by decide +kernel
theorem dX1_start_15 : decode cX1_start 15 = .ok (.aload_n 0, 1) := by decide +kernel
theorem dX1_start_16 : decode cX1_start 16 = .ok (.iconst 0, 1) := by decide +kernel
theorem dX1_start_17 : decode cX1_start 17 = .ok (.putfield 26, 3) := by decide +kernel
theorem dX1_start_20 : decode cX1_start 20 = .ok (.return_, 1) := by decide +kernel
theorem dX1_beginLine_0 : decode cX1_beginLine 0 = .ok (.aload_n 0, 1) := by decide +kernel
theorem dX1_beginLine_1 : decode cX1_beginLine 1 = .ok (.aload_n 1, 1) := by decide +kernel
theorem dX1_beginLine_2 : decode cX1_beginLine 2 = .ok (.aload_n 0, 1) := by decide +kernel
theorem dX1_beginLine_3 : decode cX1_beginLine 3 = .ok (.getfield 15, 3) := by decide +kernel
theorem dX1_beginLine_6 : decode cX1_beginLine 6 = .ok (.aload_n 0, 1) := by decide +kernel
theorem dX1_beginLine_7 : decode cX1_beginLine 7 = .ok (.getfield 19, 3) := by decide +kernel
theorem dX1_beginLine_10 : decode cX1_beginLine 10 = .ok (.aload_n 0, 1) := by decide +kernel
theorem dX1_beginLine_11 : decode cX1_beginLine 11 = .ok (.getfield 9, 3) := by decide +kernel
theorem dX1_beginLine_14 : decode cX1_beginLine 14 = .ok (.invokevirtual 29, 3) := by decide +kernel
theorem dX1_beginLine_17 : decode cX1_beginLine 17 = .ok (.putfield 35, 3) := by decide +kernel
theorem dX1_beginLine_20 : decode cX1_beginLine 20 = .ok (.iload_n 2, 1) := by decide +kernel
theorem dX1_beginLine_21 : decode cX1_beginLine 21 = .ok (.ifCond .lt 35, 3) := by decide +kernel
theorem dX1_beginLine_24 : decode cX1_beginLine 24 = .ok (.aload_n 0, 1) := by decide +kernel
theorem dX1_beginLine_25 : decode cX1_beginLine 25 = .ok (.getfield 35, 3) := by decide +kernel
theorem dX1_beginLine_28 : decode cX1_beginLine 28 = .ok (.aload_n 0, 1) := by decide +kernel
theorem dX1_beginLine_29 : decode cX1_beginLine 29 = .ok (.getfield 9, 3) := by decide +kernel
theorem dX1_beginLine_32 : decode cX1_beginLine 32 = .ok (.arraylength, 1) := by decide +kernel
theorem dX1_beginLine_33 : decode cX1_beginLine 33 = .ok (.if_icmp .ge 23, 3) := by decide +kernel
theorem dX1_beginLine_36 : decode cX1_beginLine 36 = .ok (.aload_n 0, 1) := by decide +kernel
theorem dX1_beginLine_37 : decode cX1_beginLine 37 = .ok (.getfield 9, 3) := by decide +kernel
theorem dX1_beginLine_40 : decode cX1_beginLine 40 = .ok (.aload_n 0, 1) := by decide +kernel
theorem dX1_beginLine_41 : decode cX1_beginLine 41 = .ok (.getfield 35, 3) := by decide +kernel
theorem dX1_beginLine_44 : decode cX1_beginLine 44 = .ok (.iload_n 2, 1) := by decide +kernel
theorem dX1_beginLine_45 : decode cX1_beginLine 45 = .ok (.iastore, 1) := by decide +kernel
theorem dX1_beginLine_46 : decode cX1_beginLine 46 = .ok (.aload_n 0, 1) := by decide +kernel
theorem dX1_beginLine_47 : decode cX1_beginLine 47 = .ok (.dup, 1) := by decide +kernel
theorem dX1_beginLine_48 : decode cX1_beginLine 48 = .ok (.getfield 35, 3) := by decide +kernel
theorem dX1_beginLine_51 : decode cX1_beginLine 51 = .ok (.iconst 1, 1) := by decide +kernel
theorem dX1_beginLine_52 : decode cX1_beginLine 52 = .ok (.iadd, 1) := by decide +kernel
theorem dX1_beginLine_53 : decode cX1_beginLine 53 = .ok (.putfield 35, 3) := by decide +kernel
theorem dX1_beginLine_56 : decode cX1_beginLine 56 = .ok (.aload_n 0, 1) := by decide +kernel
theorem dX1_beginLine_57 : decode cX1_beginLine 57 = .ok (.dup, 1) := by decide +kernel
theorem dX1_beginLine_58 : decode cX1_beginLine 58 = .ok (.getfield 19, 3) := by decide +kernel
theorem dX1_beginLine_61 : decode cX1_beginLine 61 = .ok (.iconst 1, 1) := by decide +kernel
theorem dX1_beginLine_62 : decode cX1_beginLine 62 = .ok (.iadd, 1) := by decide +kernel
theorem dX1_beginLine_63 : decode cX1_beginLine 63 = .ok (.putfield 19, 3) := by decide +kernel
theorem dX1_beginLine_66 : decode cX1_beginLine 66 = .ok (.aload_n 0, 1) := by decide +kernel
theorem dX1_beginLine_67 : decode cX1_beginLine 67 = .ok (.iconst 0, 1) := by decide +kernel
theorem dX1_beginLine_68 : decode cX1_beginLine 68 = .ok (.putfield 38, 3) := by decide +kernel
theorem dX1_beginLine_71 : decode cX1_beginLine 71 = .ok (.aload_n 0, 1) := by decide +kernel
theorem dX1_beginLine_72 : decode cX1_beginLine 72 = .ok (.iconst 0, 1) := by decide +kernel
theorem dX1_beginLine_73 : decode cX1_beginLine 73 = .ok (.putfield 41, 3) := by decide +kernel
theorem dX1_beginLine_76 : decode cX1_beginLine 76 = .ok (.aload_n 0, 1) := by decide +kernel
theorem dX1_beginLine_77 : decode cX1_beginLine 77 = .ok (.iconst 1, 1) := by decide +kernel
theorem dX1_beginLine_78 : decode cX1_beginLine 78 = .ok (.putfield 26, 3) := by decide +kernel
theorem dX1_beginLine_81 : decode cX1_beginLine 81 = .ok (.return_, 1) := by decide +kernel
theorem dX1_left_0 : decode cX1_left 0 = .ok (.aload_n 0, 1) := by decide +kernel
theorem dX1_left_1 : decode cX1_left 1 = .ok (.getfield 38, 3) := by decide +kernel
theorem dX1_left_4 : decode cX1_left 4 = .ok (.aload_n 0, 1) := by decide +kernel
theorem dX1_left_5 : decode cX1_left 5 = .ok (.getfield 35, 3) := by decide +kernel
theorem dX1_left_8 : decode cX1_left 8 = .ok (.if_icmp .ge 15, 3) := by decide +kernel
theorem dX1_left_11 : decode cX1_left 11 = .ok (.aload_n 0, 1) := by decide +kernel
theorem dX1_left_12 : decode cX1_left 12 = .ok (.getfield 35, 3) := by decide +kernel
theorem dX1_left_15 : decode cX1_left 15 = .ok (.aload_n 0, 1) := by decide +kernel
theorem dX1_left_16 : decode cX1_left 16 = .ok (.getfield 38, 3) := by decide +kernel
theorem dX1_left_19 : decode cX1_left 19 = .ok (.isub, 1) := by decide +kernel
theorem dX1_left_20 : decode cX1_left 20 = .ok (.goto 4, 3) := by decide +kernel
theorem dX1_left_23 : decode cX1_left 23 = .ok (.iconst 0, 1) := by decide +kernel
theorem dX1_left_24 : decode cX1_left 24 = .ok (.ireturn, 1) := by decide +kernel
theorem dX1_standing_0 : decode cX1_standing 0 = .ok (.iload_n 1, 1) := by decide +kernel
theorem dX1_standing_1 : decode cX1_standing 1 = .ok (.ifCond .lt 29, 3) := by decide +kernel
theorem dX1_standing_4 : decode cX1_standing 4 = .ok (.iload_n 1, 1) := by decide +kernel
theorem dX1_standing_5 : decode cX1_standing 5 = .ok (.aload_n 0, 1) := by decide +kernel
theorem dX1_standing_6 : decode cX1_standing 6 = .ok (.getfield 35, 3) := by decide +kernel
theorem dX1_standing_9 : decode cX1_standing 9 = .ok (.if_icmp .ge 21, 3) := by decide +kernel
theorem dX1_standing_12 : decode cX1_standing 12 = .ok (.iload_n 1, 1) := by decide +kernel
theorem dX1_standing_13 : decode cX1_standing 13 = .ok (.aload_n 0, 1) := by decide +kernel
theorem dX1_standing_14 : decode cX1_standing 14 = .ok (.getfield 9, 3) := by decide +kernel
theorem dX1_standing_17 : decode cX1_standing 17 = .ok (.arraylength, 1) := by decide +kernel
theorem dX1_standing_18 : decode cX1_standing 18 = .ok (.if_icmp .ge 12, 3) := by decide +kernel
theorem dX1_standing_21 : decode cX1_standing 21 = .ok (.aload_n 0, 1) := by decide +kernel
theorem dX1_standing_22 : decode cX1_standing 22 = .ok (.getfield 9, 3) := by decide +kernel
theorem dX1_standing_25 : decode cX1_standing 25 = .ok (.iload_n 1, 1) := by decide +kernel
theorem dX1_standing_26 : decode cX1_standing 26 = .ok (.iaload, 1) := by decide +kernel
theorem dX1_standing_27 : decode cX1_standing 27 = .ok (.goto 4, 3) := by decide +kernel
theorem dX1_standing_30 : decode cX1_standing 30 = .ok (.iconst (-1), 1) := by decide +kernel
theorem dX1_standing_31 : decode cX1_standing 31 = .ok (.ireturn, 1) := by decide +kernel
theorem dX1_look_0 : decode cX1_look 0 = .ok (.aload_n 0, 1) := by decide +kernel
theorem dX1_look_1 : decode cX1_look 1 = .ok (.aload_n 0, 1) := by decide +kernel
theorem dX1_look_2 : decode cX1_look 2 = .ok (.iload_n 1, 1) := by decide +kernel
theorem dX1_look_3 : decode cX1_look 3 = .ok (.invokevirtual 44, 3) := by decide +kernel
theorem dX1_look_6 : decode cX1_look 6 = .ok (.putfield 48, 3) := by decide +kernel
theorem dX1_look_9 : decode cX1_look 9 = .ok (.aload_n 0, 1) := by decide +kernel
theorem dX1_look_10 : decode cX1_look 10 = .ok (.iload_n 1, 1) := by decide +kernel
theorem dX1_look_11 : decode cX1_look 11 = .ok (.iconst 1, 1) := by decide +kernel
theorem dX1_look_12 : decode cX1_look 12 = .ok (.iadd, 1) := by decide +kernel
theorem dX1_look_13 : decode cX1_look 13 = .ok (.putfield 51, 3) := by decide +kernel
theorem dX1_look_16 : decode cX1_look 16 = .ok (.aload_n 0, 1) := by decide +kernel
theorem dX1_look_17 : decode cX1_look 17 = .ok (.getfield 35, 3) := by decide +kernel
theorem dX1_look_20 : decode cX1_look 20 = .ok (.istore_n 3, 1) := by decide +kernel
theorem dX1_look_21 : decode cX1_look 21 = .ok (.iload_n 3, 1) := by decide +kernel
theorem dX1_look_22 : decode cX1_look 22 = .ok (.ifCond .le 21, 3) := by decide +kernel
theorem dX1_look_25 : decode cX1_look 25 = .ok (.aload_n 0, 1) := by decide +kernel
theorem dX1_look_26 : decode cX1_look 26 = .ok (.aload_n 2, 1) := by decide +kernel
theorem dX1_look_27 : decode cX1_look 27 = .ok (.invokevirtual 54, 3) := by decide +kernel
theorem dX1_look_30 : decode cX1_look 30 = .ok (.ifCond .eq 13, 3) := by decide +kernel
theorem dX1_look_33 : decode cX1_look 33 = .ok (.aload_n 0, 1) := by decide +kernel
theorem dX1_look_34 : decode cX1_look 34 = .ok (.invokevirtual 58, 3) := by decide +kernel
theorem dX1_look_37 : decode cX1_look 37 = .ok (.iinc 3 (-1), 3) := by decide +kernel
theorem dX1_look_40 : decode cX1_look 40 = .ok (.goto (-19), 3) := by decide +kernel
theorem dX1_look_43 : decode cX1_look 43 = .ok (.return_, 1) := by decide +kernel
theorem dX1_tellsAnother_0 : decode cX1_tellsAnother 0 = .ok (.aload_n 1, 1) := by decide +kernel
theorem dX1_tellsAnother_1 : decode cX1_tellsAnother 1 = .ok (.aload_n 0, 1) := by decide +kernel
theorem dX1_tellsAnother_2 : decode cX1_tellsAnother 2 = .ok (.getfield 48, 3) := by decide +kernel
theorem dX1_tellsAnother_5 : decode cX1_tellsAnother 5 = .ok (.invokevirtual 61, 3) := by decide +kernel
theorem dX1_tellsAnother_8 : decode cX1_tellsAnother 8 = .ok (.bipush 7, 2) := by decide +kernel
theorem dX1_tellsAnother_10 : decode cX1_tellsAnother 10 = .ok (.if_icmp .ne 18, 3) := by decide +kernel
theorem dX1_tellsAnother_13 : decode cX1_tellsAnother 13 = .ok (.aload_n 0, 1) := by decide +kernel
theorem dX1_tellsAnother_14 : decode cX1_tellsAnother 14 = .ok (.aload_n 0, 1) := by decide +kernel
theorem dX1_tellsAnother_15 : decode cX1_tellsAnother 15 = .ok (.getfield 51, 3) := by decide +kernel
theorem dX1_tellsAnother_18 : decode cX1_tellsAnother 18 = .ok (.invokevirtual 44, 3) := by decide +kernel
theorem dX1_tellsAnother_21 : decode cX1_tellsAnother 21 = .ok (.aload_n 0, 1) := by decide +kernel
theorem dX1_tellsAnother_22 : decode cX1_tellsAnother 22 = .ok (.getfield 48, 3) := by decide +kernel
theorem dX1_tellsAnother_25 : decode cX1_tellsAnother 25 = .ok (.if_icmp .eq 5, 3) := by decide +kernel
theorem dX1_tellsAnother_28 : decode cX1_tellsAnother 28 = .ok (.iconst 0, 1) := by decide +kernel
theorem dX1_tellsAnother_29 : decode cX1_tellsAnother 29 = .ok (.ireturn, 1) := by decide +kernel
theorem dX1_tellsAnother_30 : decode cX1_tellsAnother 30 = .ok (.aload_n 0, 1) := by decide +kernel
theorem dX1_tellsAnother_31 : decode cX1_tellsAnother 31 = .ok (.aload_n 0, 1) := by decide +kernel
theorem dX1_tellsAnother_32 : decode cX1_tellsAnother 32 = .ok (.getfield 51, 3) := by decide +kernel
theorem dX1_tellsAnother_35 : decode cX1_tellsAnother 35 = .ok (.iconst 1, 1) := by decide +kernel
theorem dX1_tellsAnother_36 : decode cX1_tellsAnother 36 = .ok (.iadd, 1) := by decide +kernel
theorem dX1_tellsAnother_37 : decode cX1_tellsAnother 37 = .ok (.invokevirtual 44, 3) := by decide +kernel
theorem dX1_tellsAnother_40 : decode cX1_tellsAnother 40 = .ok (.istore_n 2, 1) := by decide +kernel
theorem dX1_tellsAnother_41 : decode cX1_tellsAnother 41 = .ok (.iload_n 2, 1) := by decide +kernel
theorem dX1_tellsAnother_42 : decode cX1_tellsAnother 42 = .ok (.ifCond .lt 14, 3) := by decide +kernel
theorem dX1_tellsAnother_45 : decode cX1_tellsAnother 45 = .ok (.iload_n 2, 1) := by decide +kernel
theorem dX1_tellsAnother_46 : decode cX1_tellsAnother 46 = .ok (.sipush 128, 3) := by decide +kernel
theorem dX1_tellsAnother_49 : decode cX1_tellsAnother 49 = .ok (.if_icmp .ge 7, 3) := by decide +kernel
theorem dX1_tellsAnother_52 : decode cX1_tellsAnother 52 = .ok (.iconst 1, 1) := by decide +kernel
theorem dX1_tellsAnother_53 : decode cX1_tellsAnother 53 = .ok (.goto 4, 3) := by decide +kernel
theorem dX1_tellsAnother_56 : decode cX1_tellsAnother 56 = .ok (.iconst 0, 1) := by decide +kernel
theorem dX1_tellsAnother_57 : decode cX1_tellsAnother 57 = .ok (.ireturn, 1) := by decide +kernel
theorem dX1_tellAnother_0 : decode cX1_tellAnother 0 = .ok (.aload_n 0, 1) := by decide +kernel
theorem dX1_tellAnother_1 : decode cX1_tellAnother 1 = .ok (.aload_n 0, 1) := by decide +kernel
theorem dX1_tellAnother_2 : decode cX1_tellAnother 2 = .ok (.getfield 51, 3) := by decide +kernel
theorem dX1_tellAnother_5 : decode cX1_tellAnother 5 = .ok (.iconst 1, 1) := by decide +kernel
theorem dX1_tellAnother_6 : decode cX1_tellAnother 6 = .ok (.iadd, 1) := by decide +kernel
theorem dX1_tellAnother_7 : decode cX1_tellAnother 7 = .ok (.invokevirtual 44, 3) := by decide +kernel
theorem dX1_tellAnother_10 : decode cX1_tellAnother 10 = .ok (.istore_n 1, 1) := by decide +kernel
theorem dX1_tellAnother_11 : decode cX1_tellAnother 11 = .ok (.iload_n 1, 1) := by decide +kernel
theorem dX1_tellAnother_12 : decode cX1_tellAnother 12 = .ok (.invokestatic 66, 3) := by decide +kernel
theorem dX1_tellAnother_15 : decode cX1_tellAnother 15 = .ok (.istore_n 2, 1) := by decide +kernel
theorem dX1_tellAnother_16 : decode cX1_tellAnother 16 = .ok (.aload_n 0, 1) := by decide +kernel
theorem dX1_tellAnother_17 : decode cX1_tellAnother 17 = .ok (.aload_n 0, 1) := by decide +kernel
theorem dX1_tellAnother_18 : decode cX1_tellAnother 18 = .ok (.getfield 51, 3) := by decide +kernel
theorem dX1_tellAnother_21 : decode cX1_tellAnother 21 = .ok (.iconst 2, 1) := by decide +kernel
theorem dX1_tellAnother_22 : decode cX1_tellAnother 22 = .ok (.iadd, 1) := by decide +kernel
theorem dX1_tellAnother_23 : decode cX1_tellAnother 23 = .ok (.invokevirtual 44, 3) := by decide +kernel
theorem dX1_tellAnother_26 : decode cX1_tellAnother 26 = .ok (.invokestatic 66, 3) := by decide +kernel
theorem dX1_tellAnother_29 : decode cX1_tellAnother 29 = .ok (.istore_n 3, 1) := by decide +kernel
theorem dX1_tellAnother_30 : decode cX1_tellAnother 30 = .ok (.iload_n 2, 1) := by decide +kernel
theorem dX1_tellAnother_31 : decode cX1_tellAnother 31 = .ok (.ifCond .lt 30, 3) := by decide +kernel
theorem dX1_tellAnother_34 : decode cX1_tellAnother 34 = .ok (.iload_n 3, 1) := by decide +kernel
theorem dX1_tellAnother_35 : decode cX1_tellAnother 35 = .ok (.ifCond .lt 26, 3) := by decide +kernel
theorem dX1_tellAnother_38 : decode cX1_tellAnother 38 = .ok (.aload_n 0, 1) := by decide +kernel
theorem dX1_tellAnother_39 : decode cX1_tellAnother 39 = .ok (.bipush 16, 2) := by decide +kernel
theorem dX1_tellAnother_41 : decode cX1_tellAnother 41 = .ok (.iload_n 2, 1) := by decide +kernel
theorem dX1_tellAnother_42 : decode cX1_tellAnother 42 = .ok (.imul, 1) := by decide +kernel
theorem dX1_tellAnother_43 : decode cX1_tellAnother 43 = .ok (.iload_n 3, 1) := by decide +kernel
theorem dX1_tellAnother_44 : decode cX1_tellAnother 44 = .ok (.iadd, 1) := by decide +kernel
theorem dX1_tellAnother_45 : decode cX1_tellAnother 45 = .ok (.putfield 48, 3) := by decide +kernel
theorem dX1_tellAnother_48 : decode cX1_tellAnother 48 = .ok (.aload_n 0, 1) := by decide +kernel
theorem dX1_tellAnother_49 : decode cX1_tellAnother 49 = .ok (.dup, 1) := by decide +kernel
theorem dX1_tellAnother_50 : decode cX1_tellAnother 50 = .ok (.getfield 51, 3) := by decide +kernel
theorem dX1_tellAnother_53 : decode cX1_tellAnother 53 = .ok (.iconst 3, 1) := by decide +kernel
theorem dX1_tellAnother_54 : decode cX1_tellAnother 54 = .ok (.iadd, 1) := by decide +kernel
theorem dX1_tellAnother_55 : decode cX1_tellAnother 55 = .ok (.putfield 51, 3) := by decide +kernel
theorem dX1_tellAnother_58 : decode cX1_tellAnother 58 = .ok (.goto 34, 3) := by decide +kernel
theorem dX1_tellAnother_61 : decode cX1_tellAnother 61 = .ok (.aload_n 0, 1) := by decide +kernel
theorem dX1_tellAnother_62 : decode cX1_tellAnother 62 = .ok (.iload_n 1, 1) := by decide +kernel
theorem dX1_tellAnother_63 : decode cX1_tellAnother 63 = .ok (.bipush 64, 2) := by decide +kernel
theorem dX1_tellAnother_65 : decode cX1_tellAnother 65 = .ok (.if_icmp .ge 10, 3) := by decide +kernel
theorem dX1_tellAnother_68 : decode cX1_tellAnother 68 = .ok (.iload_n 1, 1) := by decide +kernel
theorem dX1_tellAnother_69 : decode cX1_tellAnother 69 = .ok (.bipush 64, 2) := by decide +kernel
theorem dX1_tellAnother_71 : decode cX1_tellAnother 71 = .ok (.iadd, 1) := by decide +kernel
theorem dX1_tellAnother_72 : decode cX1_tellAnother 72 = .ok (.goto 7, 3) := by decide +kernel
theorem dX1_tellAnother_75 : decode cX1_tellAnother 75 = .ok (.iload_n 1, 1) := by decide +kernel
theorem dX1_tellAnother_76 : decode cX1_tellAnother 76 = .ok (.bipush 64, 2) := by decide +kernel
theorem dX1_tellAnother_78 : decode cX1_tellAnother 78 = .ok (.isub, 1) := by decide +kernel
theorem dX1_tellAnother_79 : decode cX1_tellAnother 79 = .ok (.putfield 48, 3) := by decide +kernel
theorem dX1_tellAnother_82 : decode cX1_tellAnother 82 = .ok (.aload_n 0, 1) := by decide +kernel
theorem dX1_tellAnother_83 : decode cX1_tellAnother 83 = .ok (.dup, 1) := by decide +kernel
theorem dX1_tellAnother_84 : decode cX1_tellAnother 84 = .ok (.getfield 51, 3) := by decide +kernel
theorem dX1_tellAnother_87 : decode cX1_tellAnother 87 = .ok (.iconst 2, 1) := by decide +kernel
theorem dX1_tellAnother_88 : decode cX1_tellAnother 88 = .ok (.iadd, 1) := by decide +kernel
theorem dX1_tellAnother_89 : decode cX1_tellAnother 89 = .ok (.putfield 51, 3) := by decide +kernel
theorem dX1_tellAnother_92 : decode cX1_tellAnother 92 = .ok (.return_, 1) := by decide +kernel
theorem dX1_digit_0 : decode cX1_digit 0 = .ok (.iload_n 0, 1) := by decide +kernel
theorem dX1_digit_1 : decode cX1_digit 1 = .ok (.bipush 48, 2) := by decide +kernel
theorem dX1_digit_3 : decode cX1_digit 3 = .ok (.if_icmp .lt 14, 3) := by decide +kernel
theorem dX1_digit_6 : decode cX1_digit 6 = .ok (.iload_n 0, 1) := by decide +kernel
theorem dX1_digit_7 : decode cX1_digit 7 = .ok (.bipush 57, 2) := by decide +kernel
theorem dX1_digit_9 : decode cX1_digit 9 = .ok (.if_icmp .gt 8, 3) := by decide +kernel
theorem dX1_digit_12 : decode cX1_digit 12 = .ok (.iload_n 0, 1) := by decide +kernel
theorem dX1_digit_13 : decode cX1_digit 13 = .ok (.bipush 48, 2) := by decide +kernel
theorem dX1_digit_15 : decode cX1_digit 15 = .ok (.isub, 1) := by decide +kernel
theorem dX1_digit_16 : decode cX1_digit 16 = .ok (.ireturn, 1) := by decide +kernel
theorem dX1_digit_17 : decode cX1_digit 17 = .ok (.iload_n 0, 1) := by decide +kernel
theorem dX1_digit_18 : decode cX1_digit 18 = .ok (.bipush 97, 2) := by decide +kernel
theorem dX1_digit_20 : decode cX1_digit 20 = .ok (.if_icmp .lt 16, 3) := by decide +kernel
theorem dX1_digit_23 : decode cX1_digit 23 = .ok (.iload_n 0, 1) := by decide +kernel
theorem dX1_digit_24 : decode cX1_digit 24 = .ok (.bipush 102, 2) := by decide +kernel
theorem dX1_digit_26 : decode cX1_digit 26 = .ok (.if_icmp .gt 10, 3) := by decide +kernel
theorem dX1_digit_29 : decode cX1_digit 29 = .ok (.iload_n 0, 1) := by decide +kernel
theorem dX1_digit_30 : decode cX1_digit 30 = .ok (.bipush 87, 2) := by decide +kernel
theorem dX1_digit_32 : decode cX1_digit 32 = .ok (.isub, 1) := by decide +kernel
theorem dX1_digit_33 : decode cX1_digit 33 = .ok (.goto 4, 3) := by decide +kernel
theorem dX1_digit_36 : decode cX1_digit 36 = .ok (.iconst (-1), 1) := by decide +kernel
theorem dX1_digit_37 : decode cX1_digit 37 = .ok (.ireturn, 1) := by decide +kernel
end
section
theorem dX2_init_0 : decode cX2_init 0 = .ok (.aload_n 0, 1) := by decide +kernel
theorem dX2_init_1 : decode cX2_init 1 = .ok (.invokespecial 3, 3) := by decide +kernel
theorem dX2_init_4 : decode cX2_init 4 = .ok (.aload_n 0, 1) := by decide +kernel
theorem dX2_init_5 : decode cX2_init 5 = .ok (.bipush 8, 2) := by decide +kernel
theorem dX2_init_7 : decode cX2_init 7 = .ok (.newarray .int, 2) := by decide +kernel
theorem dX2_init_9 : decode cX2_init 9 = .ok (.putfield 9, 3) := by decide +kernel
theorem dX2_init_12 : decode cX2_init 12 = .ok (.aload_n 0, 1) := by decide +kernel
theorem dX2_init_13 : decode cX2_init 13 = .ok (.sipush 240, 3) := by decide +kernel
theorem dX2_init_16 : decode cX2_init 16 = .ok (.newarray .int, 2) := by decide +kernel
theorem dX2_init_18 : decode cX2_init 18 = .ok (.putfield 15, 3) := by decide +kernel
theorem dX2_init_21 : decode cX2_init 21 = .ok (.aload_n 0, 1) := by decide +kernel
theorem dX2_init_22 : decode cX2_init 22 = .ok (.sipush 28800, 3) := by decide +kernel
theorem dX2_init_25 : decode cX2_init 25 = .ok (.newarray .int, 2) := by decide +kernel
theorem dX2_init_27 : decode cX2_init 27 = .ok (.putfield 18, 3) := by decide +kernel
theorem dX2_init_30 : decode cX2_init 30 = .ok (.return_, 1) := by decide +kernel
theorem dX2_hasFile_0 : decode cX2_hasFile 0 = .ok (.iload_n 1, 1) := by decide +kernel
theorem dX2_hasFile_1 : decode cX2_hasFile 1 = .ok (.ifCond .lt 24, 3) := by decide +kernel
theorem dX2_hasFile_4 : decode cX2_hasFile 4 = .ok (.iload_n 1, 1) := by decide +kernel
theorem dX2_hasFile_5 : decode cX2_hasFile 5 = .ok (.aload_n 0, 1) := by decide +kernel
theorem dX2_hasFile_6 : decode cX2_hasFile 6 = .ok (.getfield 21, 3) := by decide +kernel
theorem dX2_hasFile_9 : decode cX2_hasFile 9 = .ok (.if_icmp .ge 16, 3) := by decide +kernel
theorem dX2_hasFile_12 : decode cX2_hasFile 12 = .ok (.iload_n 1, 1) := by decide +kernel
theorem dX2_hasFile_13 : decode cX2_hasFile 13 = .ok (.aload_n 0, 1) := by decide +kernel
theorem dX2_hasFile_14 : decode cX2_hasFile 14 = .ok (.getfield 9, 3) := by decide +kernel
theorem dX2_hasFile_17 : decode cX2_hasFile 17 = .ok (.arraylength, 1) := by decide +kernel
theorem dX2_hasFile_18 : decode cX2_hasFile 18 = .ok (.if_icmp .ge 7, 3) := by decide +kernel
theorem dX2_hasFile_21 : decode cX2_hasFile 21 = .ok (.iconst 1, 1) := by decide +kernel
theorem dX2_hasFile_22 : decode cX2_hasFile 22 = .ok (.goto 4, 3) := by decide +kernel
theorem dX2_hasFile_25 : decode cX2_hasFile 25 = .ok (.iconst 0, 1) := by decide +kernel
theorem dX2_hasFile_26 : decode cX2_hasFile 26 = .ok (.ireturn, 1) := by decide +kernel
theorem dX2_newFile_0 : decode cX2_newFile 0 = .ok (.aload_n 0, 1) := by decide +kernel
theorem dX2_newFile_1 : decode cX2_newFile 1 = .ok (.getfield 21, 3) := by decide +kernel
theorem dX2_newFile_4 : decode cX2_newFile 4 = .ok (.bipush 8, 2) := by decide +kernel
theorem dX2_newFile_6 : decode cX2_newFile 6 = .ok (.if_icmp .lt 6, 3) := by decide +kernel
theorem dX2_newFile_9 : decode cX2_newFile 9 = .ok (.bipush (-4), 2) := by decide +kernel
theorem dX2_newFile_11 : decode cX2_newFile 11 = .ok (.ireturn, 1) := by decide +kernel
theorem dX2_newFile_12 : decode cX2_newFile 12 = .ok (.aload_n 0, 1) := by decide +kernel
theorem dX2_newFile_13 : decode cX2_newFile 13 = .ok (.dup, 1) := by decide +kernel
theorem dX2_newFile_14 : decode cX2_newFile 14 = .ok (.getfield 21, 3) := by decide +kernel
theorem dX2_newFile_17 : decode cX2_newFile 17 = .ok (.iconst 1, 1) := by decide +kernel
theorem dX2_newFile_18 : decode cX2_newFile 18 = .ok (.iadd, 1) := by decide +kernel
theorem dX2_newFile_19 : decode cX2_newFile 19 = .ok (.putfield 21, 3) := by decide +kernel
theorem dX2_newFile_22 : decode cX2_newFile 22 = .ok (.aload_n 0, 1) := by decide +kernel
theorem dX2_newFile_23 : decode cX2_newFile 23 = .ok (.getfield 21, 3) := by decide +kernel
theorem dX2_newFile_26 : decode cX2_newFile 26 = .ok (.iconst 1, 1) := by decide +kernel
theorem dX2_newFile_27 : decode cX2_newFile 27 = .ok (.isub, 1) := by decide +kernel
theorem dX2_newFile_28 : decode cX2_newFile 28 = .ok (.ireturn, 1) := by decide +kernel
theorem dX2_lineCount_0 : decode cX2_lineCount 0 = .ok (.aload_n 0, 1) := by decide +kernel
theorem dX2_lineCount_1 : decode cX2_lineCount 1 = .ok (.iload_n 1, 1) := by decide +kernel
theorem dX2_lineCount_2 : decode cX2_lineCount 2 = .ok (.invokevirtual 25, 3) := by decide +kernel
theorem dX2_lineCount_5 : decode cX2_lineCount 5 = .ok (.ifCond .eq 12, 3) := by decide +kernel
theorem dX2_lineCount_8 : decode cX2_lineCount 8 = .ok (.aload_n 0, 1) := by decide +kernel
theorem dX2_lineCount_9 : decode cX2_lineCount 9 = .ok (.getfield 9, 3) := by decide +kernel
theorem dX2_lineCount_12 : decode cX2_lineCount 12 = .ok (.iload_n 1, 1) := by decide +kernel
theorem dX2_lineCount_13 : decode cX2_lineCount 13 = .ok (.iaload, 1) := by decide +kernel
theorem dX2_lineCount_14 : decode cX2_lineCount 14 = .ok (.goto 4, 3) := by decide +kernel
theorem dX2_lineCount_17 : decode cX2_lineCount 17 = .ok (.iconst 0, 1) := by decide +kernel
theorem dX2_lineCount_18 : decode cX2_lineCount 18 = .ok (.ireturn, 1) := by decide +kernel
theorem dX2_newLine_0 : decode cX2_newLine 0 = .ok (.aload_n 0, 1) := by decide +kernel
theorem dX2_newLine_1 : decode cX2_newLine 1 = .ok (.iload_n 1, 1) := by decide +kernel
theorem dX2_newLine_2 : decode cX2_newLine 2 = .ok (.invokevirtual 29, 3) := by decide +kernel
theorem dX2_newLine_5 : decode cX2_newLine 5 = .ok (.istore_n 2, 1) := by decide +kernel
theorem dX2_newLine_6 : decode cX2_newLine 6 = .ok (.aload_n 0, 1) := by decide +kernel
theorem dX2_newLine_7 : decode cX2_newLine 7 = .ok (.iload_n 1, 1) := by decide +kernel
theorem dX2_newLine_8 : decode cX2_newLine 8 = .ok (.invokevirtual 25, 3) := by decide +kernel
theorem dX2_newLine_11 : decode cX2_newLine 11 = .ok (.ifCond .eq 9, 3) := by decide +kernel
theorem dX2_newLine_14 : decode cX2_newLine 14 = .ok (.iload_n 2, 1) := by decide +kernel
theorem dX2_newLine_15 : decode cX2_newLine 15 = .ok (.bipush 30, 2) := by decide +kernel
theorem dX2_newLine_17 : decode cX2_newLine 17 = .ok (.if_icmp .lt 6, 3) := by decide +kernel
theorem dX2_newLine_20 : decode cX2_newLine 20 = .ok (.bipush (-4), 2) := by decide +kernel
theorem dX2_newLine_22 : decode cX2_newLine 22 = .ok (.ireturn, 1) := by decide +kernel
theorem dX2_newLine_23 : decode cX2_newLine 23 = .ok (.aload_n 0, 1) := by decide +kernel
theorem dX2_newLine_24 : decode cX2_newLine 24 = .ok (.getfield 9, 3) := by decide +kernel
theorem dX2_newLine_27 : decode cX2_newLine 27 = .ok (.iload_n 1, 1) := by decide +kernel
theorem dX2_newLine_28 : decode cX2_newLine 28 = .ok (.iload_n 2, 1) := by decide +kernel
theorem dX2_newLine_29 : decode cX2_newLine 29 = .ok (.iconst 1, 1) := by decide +kernel
theorem dX2_newLine_30 : decode cX2_newLine 30 = .ok (.iadd, 1) := by decide +kernel
theorem dX2_newLine_31 : decode cX2_newLine 31 = .ok (.iastore, 1) := by decide +kernel
theorem dX2_newLine_32 : decode cX2_newLine 32 = .ok (.iload_n 2, 1) := by decide +kernel
theorem dX2_newLine_33 : decode cX2_newLine 33 = .ok (.iconst 1, 1) := by decide +kernel
theorem dX2_newLine_34 : decode cX2_newLine 34 = .ok (.iadd, 1) := by decide +kernel
theorem dX2_newLine_35 : decode cX2_newLine 35 = .ok (.ireturn, 1) := by decide +kernel
theorem dX2_append_0 : decode cX2_append 0 = .ok (.iload_n 1, 1) := by decide +kernel
theorem dX2_append_1 : decode cX2_append 1 = .ok (.bipush 30, 2) := by decide +kernel
theorem dX2_append_3 : decode cX2_append 3 = .ok (.imul, 1) := by decide +kernel
theorem dX2_append_4 : decode cX2_append 4 = .ok (.aload_n 0, 1) := by decide +kernel
theorem dX2_append_5 : decode cX2_append 5 = .ok (.iload_n 1, 1) := by decide +kernel
theorem dX2_append_6 : decode cX2_append 6 = .ok (.invokevirtual 29, 3) := by decide +kernel
theorem dX2_append_9 : decode cX2_append 9 = .ok (.iadd, 1) := by decide +kernel
theorem dX2_append_10 : decode cX2_append 10 = .ok (.iconst 1, 1) := by decide +kernel
theorem dX2_append_11 : decode cX2_append 11 = .ok (.isub, 1) := by decide +kernel
theorem dX2_append_12 : decode cX2_append 12 = .ok (.istore 5, 2) := by decide +kernel
theorem dX2_append_14 : decode cX2_append 14 = .ok (.aload_n 0, 1) := by decide +kernel
theorem dX2_append_15 : decode cX2_append 15 = .ok (.iload_n 1, 1) := by decide +kernel
theorem dX2_append_16 : decode cX2_append 16 = .ok (.invokevirtual 29, 3) := by decide +kernel
theorem dX2_append_19 : decode cX2_append 19 = .ok (.ifCond .le 18, 3) := by decide +kernel
theorem dX2_append_22 : decode cX2_append 22 = .ok (.iload 5, 2) := by decide +kernel
theorem dX2_append_24 : decode cX2_append 24 = .ok (.ifCond .lt 13, 3) := by decide +kernel
theorem dX2_append_27 : decode cX2_append 27 = .ok (.iload 5, 2) := by decide +kernel
theorem dX2_append_29 : decode cX2_append 29 = .ok (.aload_n 0, 1) := by decide +kernel
theorem dX2_append_30 : decode cX2_append 30 = .ok (.getfield 15, 3) := by decide +kernel
theorem dX2_append_33 : decode cX2_append 33 = .ok (.arraylength, 1) := by decide +kernel
theorem dX2_append_34 : decode cX2_append 34 = .ok (.if_icmp .lt 6, 3) := by decide +kernel
theorem dX2_append_37 : decode cX2_append 37 = .ok (.bipush (-3), 2) := by decide +kernel
theorem dX2_append_39 : decode cX2_append 39 = .ok (.ireturn, 1) := by decide +kernel
theorem dX2_append_40 : decode cX2_append 40 = .ok (.aload_n 0, 1) := by decide +kernel
theorem dX2_append_41 : decode cX2_append 41 = .ok (.getfield 15, 3) := by decide +kernel
theorem dX2_append_44 : decode cX2_append 44 = .ok (.iload 5, 2) := by decide +kernel
theorem dX2_append_46 : decode cX2_append 46 = .ok (.iaload, 1) := by decide +kernel
theorem dX2_append_47 : decode cX2_append 47 = .ok (.istore 6, 2) := by decide +kernel
theorem dX2_append_49 : decode cX2_append 49 = .ok (.iload 6, 2) := by decide +kernel
theorem dX2_append_51 : decode cX2_append 51 = .ok (.iload 4, 2) := by decide +kernel
theorem dX2_append_53 : decode cX2_append 53 = .ok (.iadd, 1) := by decide +kernel
theorem dX2_append_54 : decode cX2_append 54 = .ok (.bipush 120, 2) := by decide +kernel
theorem dX2_append_56 : decode cX2_append 56 = .ok (.if_icmp .le 6, 3) := by decide +kernel
theorem dX2_append_59 : decode cX2_append 59 = .ok (.bipush (-4), 2) := by decide +kernel
theorem dX2_append_61 : decode cX2_append 61 = .ok (.ireturn, 1) := by decide +kernel
theorem dX2_append_62 : decode cX2_append 62 = .ok (.iconst 0, 1) := by decide +kernel
theorem dX2_append_63 : decode cX2_append 63 = .ok (.istore 7, 2) := by decide +kernel
theorem dX2_append_65 : decode cX2_append 65 = .ok (.iload 7, 2) := by decide +kernel
theorem dX2_append_67 : decode cX2_append 67 = .ok (.iload 4, 2) := by decide +kernel
theorem dX2_append_69 : decode cX2_append 69 = .ok (.if_icmp .ge 41, 3) := by decide +kernel
theorem dX2_append_72 : decode cX2_append 72 = .ok (.aload_n 0, 1) := by decide +kernel
theorem dX2_append_73 : decode cX2_append 73 = .ok (.iload 5, 2) := by decide +kernel
theorem dX2_append_75 : decode cX2_append 75 = .ok (.bipush 120, 2) := by decide +kernel
theorem dX2_append_77 : decode cX2_append 77 = .ok (.imul, 1) := by decide +kernel
theorem dX2_append_78 : decode cX2_append 78 = .ok (.iload 6, 2) := by decide +kernel
theorem dX2_append_80 : decode cX2_append 80 = .ok (.iadd, 1) := by decide +kernel
theorem dX2_append_81 : decode cX2_append 81 = .ok (.iload 7, 2) := by decide +kernel
theorem dX2_append_83 : decode cX2_append 83 = .ok (.iadd, 1) := by decide +kernel
theorem dX2_append_84 : decode cX2_append 84 = .ok (.lload_n 2, 1) := by decide +kernel
theorem dX2_append_85 : decode cX2_append 85 = .ok (.bipush 8, 2) := by decide +kernel
theorem dX2_append_87 : decode cX2_append 87 = .ok (.iload 4, 2) := by decide +kernel
theorem dX2_append_89 : decode cX2_append 89 = .ok (.iconst 1, 1) := by decide +kernel
theorem dX2_append_90 : decode cX2_append 90 = .ok (.isub, 1) := by decide +kernel
theorem dX2_append_91 : decode cX2_append 91 = .ok (.iload 7, 2) := by decide +kernel
theorem dX2_append_93 : decode cX2_append 93 = .ok (.isub, 1) := by decide +kernel
theorem dX2_append_94 : decode cX2_append 94 = .ok (.imul, 1) := by decide +kernel
theorem dX2_append_95 : decode cX2_append 95 = .ok (.lushr, 1) := by decide +kernel
theorem dX2_append_96 : decode cX2_append 96 = .ok (.l2i, 1) := by decide +kernel
theorem dX2_append_97 : decode cX2_append 97 = .ok (.sipush 255, 3) := by decide +kernel
theorem dX2_append_100 : decode cX2_append 100 = .ok (.iand, 1) := by decide +kernel
theorem dX2_append_101 : decode cX2_append 101 = .ok (.invokevirtual 33, 3) := by decide +kernel
theorem dX2_append_104 : decode cX2_append 104 = .ok (.iinc 7 1, 3) := by decide +kernel
theorem dX2_append_107 : decode cX2_append 107 = .ok (.goto (-42), 3) := by decide +kernel
theorem dX2_append_110 : decode cX2_append 110 = .ok (.aload_n 0, 1) := by decide +kernel
theorem dX2_append_111 : decode cX2_append 111 = .ok (.getfield 15, 3) := by decide +kernel
theorem dX2_append_114 : decode cX2_append 114 = .ok (.iload 5, 2) := by decide +kernel
theorem dX2_append_116 : decode cX2_append 116 = .ok (.iload 6, 2) := by decide +kernel
theorem dX2_append_118 : decode cX2_append 118 = .ok (.iload 4, 2) := by decide +kernel
theorem dX2_append_120 : decode cX2_append 120 = .ok (.iadd, 1) := by decide +kernel
theorem dX2_append_121 : decode cX2_append 121 = .ok (.iastore, 1) := by decide +kernel
theorem dX2_append_122 : decode cX2_append 122 = .ok (.iload 6, 2) := by decide +kernel
theorem dX2_append_124 : decode cX2_append 124 = .ok (.iload 4, 2) := by decide +kernel
theorem dX2_append_126 : decode cX2_append 126 = .ok (.iadd, 1) := by decide +kernel
theorem dX2_append_127 : decode cX2_append 127 = .ok (.ireturn, 1) := by decide +kernel
theorem dX2_putSign_0 : decode cX2_putSign 0 = .ok (.iload_n 1, 1) := by decide +kernel
theorem dX2_putSign_1 : decode cX2_putSign 1 = .ok (.ifCond .lt 19, 3) := by decide +kernel
theorem dX2_putSign_4 : decode cX2_putSign 4 = .ok (.iload_n 1, 1) := by decide +kernel
theorem dX2_putSign_5 : decode cX2_putSign 5 = .ok (.aload_n 0, 1) := by decide +kernel
theorem dX2_putSign_6 : decode cX2_putSign 6 = .ok (.getfield 18, 3) := by decide +kernel
theorem dX2_putSign_9 : decode cX2_putSign 9 = .ok (.arraylength, 1) := by decide +kernel
theorem dX2_putSign_10 : decode cX2_putSign 10 = .ok (.if_icmp .ge 10, 3) := by decide +kernel
theorem dX2_putSign_13 : decode cX2_putSign 13 = .ok (.aload_n 0, 1) := by decide +kernel
theorem dX2_putSign_14 : decode cX2_putSign 14 = .ok (.getfield 18, 3) := by decide +kernel
theorem dX2_putSign_17 : decode cX2_putSign 17 = .ok (.iload_n 1, 1) := by decide +kernel
theorem dX2_putSign_18 : decode cX2_putSign 18 = .ok (.iload_n 2, 1) := by decide +kernel
theorem dX2_putSign_19 : decode cX2_putSign 19 = .ok (.iastore, 1) := by decide +kernel
theorem dX2_putSign_20 : decode cX2_putSign 20 = .ok (.return_, 1) := by decide +kernel
theorem dX2_copyLine_0 : decode cX2_copyLine 0 = .ok (.iload_n 1, 1) := by decide +kernel
theorem dX2_copyLine_1 : decode cX2_copyLine 1 = .ok (.bipush 30, 2) := by decide +kernel
theorem dX2_copyLine_3 : decode cX2_copyLine 3 = .ok (.imul, 1) := by decide +kernel
theorem dX2_copyLine_4 : decode cX2_copyLine 4 = .ok (.iload_n 2, 1) := by decide +kernel
theorem dX2_copyLine_5 : decode cX2_copyLine 5 = .ok (.iadd, 1) := by decide +kernel
theorem dX2_copyLine_6 : decode cX2_copyLine 6 = .ok (.istore 4, 2) := by decide +kernel
theorem dX2_copyLine_8 : decode cX2_copyLine 8 = .ok (.iload_n 2, 1) := by decide +kernel
theorem dX2_copyLine_9 : decode cX2_copyLine 9 = .ok (.ifCond .lt 22, 3) := by decide +kernel
theorem dX2_copyLine_12 : decode cX2_copyLine 12 = .ok (.iload_n 2, 1) := by decide +kernel
theorem dX2_copyLine_13 : decode cX2_copyLine 13 = .ok (.aload_n 0, 1) := by decide +kernel
theorem dX2_copyLine_14 : decode cX2_copyLine 14 = .ok (.iload_n 1, 1) := by decide +kernel
theorem dX2_copyLine_15 : decode cX2_copyLine 15 = .ok (.invokevirtual 29, 3) := by decide +kernel
theorem dX2_copyLine_18 : decode cX2_copyLine 18 = .ok (.if_icmp .ge 13, 3) := by decide +kernel
theorem dX2_copyLine_21 : decode cX2_copyLine 21 = .ok (.iload 4, 2) := by decide +kernel
theorem dX2_copyLine_23 : decode cX2_copyLine 23 = .ok (.aload_n 0, 1) := by decide +kernel
theorem dX2_copyLine_24 : decode cX2_copyLine 24 = .ok (.getfield 15, 3) := by decide +kernel
theorem dX2_copyLine_27 : decode cX2_copyLine 27 = .ok (.arraylength, 1) := by decide +kernel
theorem dX2_copyLine_28 : decode cX2_copyLine 28 = .ok (.if_icmp .lt 5, 3) := by decide +kernel
theorem dX2_copyLine_31 : decode cX2_copyLine 31 = .ok (.iconst 0, 1) := by decide +kernel
theorem dX2_copyLine_32 : decode cX2_copyLine 32 = .ok (.ireturn, 1) := by decide +kernel
theorem dX2_copyLine_33 : decode cX2_copyLine 33 = .ok (.iload 4, 2) := by decide +kernel
theorem dX2_copyLine_35 : decode cX2_copyLine 35 = .ok (.bipush 120, 2) := by decide +kernel
theorem dX2_copyLine_37 : decode cX2_copyLine 37 = .ok (.imul, 1) := by decide +kernel
theorem dX2_copyLine_38 : decode cX2_copyLine 38 = .ok (.istore 5, 2) := by decide +kernel
theorem dX2_copyLine_40 : decode cX2_copyLine 40 = .ok (.aload_n 0, 1) := by decide +kernel
theorem dX2_copyLine_41 : decode cX2_copyLine 41 = .ok (.getfield 15, 3) := by decide +kernel
theorem dX2_copyLine_44 : decode cX2_copyLine 44 = .ok (.iload 4, 2) := by decide +kernel
theorem dX2_copyLine_46 : decode cX2_copyLine 46 = .ok (.iaload, 1) := by decide +kernel
theorem dX2_copyLine_47 : decode cX2_copyLine 47 = .ok (.istore 6, 2) := by decide +kernel
theorem dX2_copyLine_49 : decode cX2_copyLine 49 = .ok (.iload 6, 2) := by decide +kernel
theorem dX2_copyLine_51 : decode cX2_copyLine 51 = .ok (.ifCond .le 25, 3) := by decide +kernel
theorem dX2_copyLine_54 : decode cX2_copyLine 54 = .ok (.aload_n 0, 1) := by decide +kernel
theorem dX2_copyLine_55 : decode cX2_copyLine 55 = .ok (.iload 5, 2) := by decide +kernel
theorem dX2_copyLine_57 : decode cX2_copyLine 57 = .ok (.iload 6, 2) := by decide +kernel
theorem dX2_copyLine_59 : decode cX2_copyLine 59 = .ok (.iadd, 1) := by decide +kernel
theorem dX2_copyLine_60 : decode cX2_copyLine 60 = .ok (.iconst 1, 1) := by decide +kernel
theorem dX2_copyLine_61 : decode cX2_copyLine 61 = .ok (.isub, 1) := by decide +kernel
theorem dX2_copyLine_62 : decode cX2_copyLine 62 = .ok (.invokevirtual 37, 3) := by decide +kernel
theorem dX2_copyLine_65 : decode cX2_copyLine 65 = .ok (.bipush 32, 2) := by decide +kernel
theorem dX2_copyLine_67 : decode cX2_copyLine 67 = .ok (.if_icmp .ne 9, 3) := by decide +kernel
theorem dX2_copyLine_70 : decode cX2_copyLine 70 = .ok (.iinc 6 (-1), 3) := by decide +kernel
theorem dX2_copyLine_73 : decode cX2_copyLine 73 = .ok (.goto (-24), 3) := by decide +kernel
theorem dX2_copyLine_76 : decode cX2_copyLine 76 = .ok (.iconst 0, 1) := by decide +kernel
theorem dX2_copyLine_77 : decode cX2_copyLine 77 = .ok (.istore 7, 2) := by decide +kernel
theorem dX2_copyLine_79 : decode cX2_copyLine 79 = .ok (.iload 7, 2) := by decide +kernel
theorem dX2_copyLine_81 : decode cX2_copyLine 81 = .ok (.iload 6, 2) := by decide +kernel
theorem dX2_copyLine_83 : decode cX2_copyLine 83 = .ok (.if_icmp .ge 29, 3) := by decide +kernel
theorem dX2_copyLine_86 : decode cX2_copyLine 86 = .ok (.iload 7, 2) := by decide +kernel
theorem dX2_copyLine_88 : decode cX2_copyLine 88 = .ok (.aload_n 3, 1) := by decide +kernel
theorem dX2_copyLine_89 : decode cX2_copyLine 89 = .ok (.arraylength, 1) := by decide +kernel
theorem dX2_copyLine_90 : decode cX2_copyLine 90 = .ok (.if_icmp .ge 22, 3) := by decide +kernel
theorem dX2_copyLine_93 : decode cX2_copyLine 93 = .ok (.aload_n 3, 1) := by decide +kernel
theorem dX2_copyLine_94 : decode cX2_copyLine 94 = .ok (.iload 7, 2) := by decide +kernel
theorem dX2_copyLine_96 : decode cX2_copyLine 96 = .ok (.aload_n 0, 1) := by decide +kernel
theorem dX2_copyLine_97 : decode cX2_copyLine 97 = .ok (.iload 5, 2) := by decide +kernel
theorem dX2_copyLine_99 : decode cX2_copyLine 99 = .ok (.iload 7, 2) := by decide +kernel
theorem dX2_copyLine_101 : decode cX2_copyLine 101 = .ok (.iadd, 1) := by decide +kernel
theorem dX2_copyLine_102 : decode cX2_copyLine 102 = .ok (.invokevirtual 37, 3) := by decide +kernel
theorem dX2_copyLine_105 : decode cX2_copyLine 105 = .ok (.iastore, 1) := by decide +kernel
theorem dX2_copyLine_106 : decode cX2_copyLine 106 = .ok (.iinc 7 1, 3) := by decide +kernel
theorem dX2_copyLine_109 : decode cX2_copyLine 109 = .ok (.goto (-30), 3) := by decide +kernel
theorem dX2_copyLine_112 : decode cX2_copyLine 112 = .ok (.iload 6, 2) := by decide +kernel
theorem dX2_copyLine_114 : decode cX2_copyLine 114 = .ok (.ireturn, 1) := by decide +kernel
theorem dX2_signAt_0 : decode cX2_signAt 0 = .ok (.iload_n 1, 1) := by decide +kernel
theorem dX2_signAt_1 : decode cX2_signAt 1 = .ok (.ifCond .lt 21, 3) := by decide +kernel
theorem dX2_signAt_4 : decode cX2_signAt 4 = .ok (.iload_n 1, 1) := by decide +kernel
theorem dX2_signAt_5 : decode cX2_signAt 5 = .ok (.aload_n 0, 1) := by decide +kernel
theorem dX2_signAt_6 : decode cX2_signAt 6 = .ok (.getfield 18, 3) := by decide +kernel
theorem dX2_signAt_9 : decode cX2_signAt 9 = .ok (.arraylength, 1) := by decide +kernel
theorem dX2_signAt_10 : decode cX2_signAt 10 = .ok (.if_icmp .ge 12, 3) := by decide +kernel
theorem dX2_signAt_13 : decode cX2_signAt 13 = .ok (.aload_n 0, 1) := by decide +kernel
theorem dX2_signAt_14 : decode cX2_signAt 14 = .ok (.getfield 18, 3) := by decide +kernel
theorem dX2_signAt_17 : decode cX2_signAt 17 = .ok (.iload_n 1, 1) := by decide +kernel
theorem dX2_signAt_18 : decode cX2_signAt 18 = .ok (.iaload, 1) := by decide +kernel
theorem dX2_signAt_19 : decode cX2_signAt 19 = .ok (.goto 4, 3) := by decide +kernel
theorem dX2_signAt_22 : decode cX2_signAt 22 = .ok (.iconst (-1), 1) := by decide +kernel
theorem dX2_signAt_23 : decode cX2_signAt 23 = .ok (.ireturn, 1) := by decide +kernel
end
section
theorem dX3_init_0 : decode cX3_init 0 = .ok (.aload_n 0, 1) := by decide +kernel
theorem dX3_init_1 : decode cX3_init 1 = .ok (.invokespecial 3, 3) := by decide +kernel
theorem dX3_init_4 : decode cX3_init 4 = .ok (.aload_n 0, 1) := by decide +kernel
theorem dX3_init_5 : decode cX3_init 5 = .ok (.sipush 6000, 3) := by decide +kernel
theorem dX3_init_8 : decode cX3_init 8 = .ok (.newarray .int, 2) := by decide +kernel
theorem dX3_init_10 : decode cX3_init 10 = .ok (.putfield 9, 3) := by decide +kernel
theorem dX3_init_13 : decode cX3_init 13 = .ok (.aload_n 0, 1) := by decide +kernel
theorem dX3_init_14 : decode cX3_init 14 = .ok (.sipush 150, 3) := by decide +kernel
theorem dX3_init_17 : decode cX3_init 17 = .ok (.newarray .int, 2) := by decide +kernel
theorem dX3_init_19 : decode cX3_init 19 = .ok (.putfield 15, 3) := by decide +kernel
theorem dX3_init_22 : decode cX3_init 22 = .ok (.aload_n 0, 1) := by decide +kernel
theorem dX3_init_23 : decode cX3_init 23 = .ok (.bipush 40, 2) := by decide +kernel
theorem dX3_init_25 : decode cX3_init 25 = .ok (.newarray .int, 2) := by decide +kernel
theorem dX3_init_27 : decode cX3_init 27 = .ok (.putfield 18, 3) := by decide +kernel
theorem dX3_init_30 : decode cX3_init 30 = .ok (.aload_n 0, 1) := by decide +kernel
theorem dX3_init_31 : decode cX3_init 31 = .ok (.getfield 9, 3) := by decide +kernel
theorem dX3_init_34 : decode cX3_init 34 = .ok (.iconst 0, 1) := by decide +kernel
theorem dX3_init_35 : decode cX3_init 35 = .ok (.bipush 112, 2) := by decide +kernel
theorem dX3_init_37 : decode cX3_init 37 = .ok (.iastore, 1) := by decide +kernel
theorem dX3_init_38 : decode cX3_init 38 = .ok (.aload_n 0, 1) := by decide +kernel
theorem dX3_init_39 : decode cX3_init 39 = .ok (.getfield 9, 3) := by decide +kernel
theorem dX3_init_42 : decode cX3_init 42 = .ok (.iconst 1, 1) := by decide +kernel
theorem dX3_init_43 : decode cX3_init 43 = .ok (.bipush 97, 2) := by decide +kernel
theorem dX3_init_45 : decode cX3_init 45 = .ok (.iastore, 1) := by decide +kernel
theorem dX3_init_46 : decode cX3_init 46 = .ok (.aload_n 0, 1) := by decide +kernel
theorem dX3_init_47 : decode cX3_init 47 = .ok (.getfield 9, 3) := by decide +kernel
theorem dX3_init_50 : decode cX3_init 50 = .ok (.iconst 2, 1) := by decide +kernel
theorem dX3_init_51 : decode cX3_init 51 = .ok (.bipush 114, 2) := by decide +kernel
theorem dX3_init_53 : decode cX3_init 53 = .ok (.iastore, 1) := by decide +kernel
theorem dX3_init_54 : decode cX3_init 54 = .ok (.aload_n 0, 1) := by decide +kernel
theorem dX3_init_55 : decode cX3_init 55 = .ok (.getfield 15, 3) := by decide +kernel
theorem dX3_init_58 : decode cX3_init 58 = .ok (.iconst 0, 1) := by decide +kernel
theorem dX3_init_59 : decode cX3_init 59 = .ok (.iconst 3, 1) := by decide +kernel
theorem dX3_init_60 : decode cX3_init 60 = .ok (.iastore, 1) := by decide +kernel
theorem dX3_init_61 : decode cX3_init 61 = .ok (.aload_n 0, 1) := by decide +kernel
theorem dX3_init_62 : decode cX3_init 62 = .ok (.iconst 1, 1) := by decide +kernel
theorem dX3_init_63 : decode cX3_init 63 = .ok (.putfield 21, 3) := by decide +kernel
theorem dX3_init_66 : decode cX3_init 66 = .ok (.return_, 1) := by decide +kernel
theorem dX3_has_0 : decode cX3_has 0 = .ok (.iload_n 1, 1) := by decide +kernel
theorem dX3_has_1 : decode cX3_has 1 = .ok (.ifCond .lt 24, 3) := by decide +kernel
theorem dX3_has_4 : decode cX3_has 4 = .ok (.iload_n 1, 1) := by decide +kernel
theorem dX3_has_5 : decode cX3_has 5 = .ok (.aload_n 0, 1) := by decide +kernel
theorem dX3_has_6 : decode cX3_has 6 = .ok (.getfield 21, 3) := by decide +kernel
theorem dX3_has_9 : decode cX3_has 9 = .ok (.if_icmp .ge 16, 3) := by decide +kernel
theorem dX3_has_12 : decode cX3_has 12 = .ok (.iload_n 1, 1) := by decide +kernel
theorem dX3_has_13 : decode cX3_has 13 = .ok (.aload_n 0, 1) := by decide +kernel
theorem dX3_has_14 : decode cX3_has 14 = .ok (.getfield 15, 3) := by decide +kernel
theorem dX3_has_17 : decode cX3_has 17 = .ok (.arraylength, 1) := by decide +kernel
theorem dX3_has_18 : decode cX3_has 18 = .ok (.if_icmp .ge 7, 3) := by decide +kernel
theorem dX3_has_21 : decode cX3_has 21 = .ok (.iconst 1, 1) := by decide +kernel
theorem dX3_has_22 : decode cX3_has 22 = .ok (.goto 4, 3) := by decide +kernel
theorem dX3_has_25 : decode cX3_has 25 = .ok (.iconst 0, 1) := by decide +kernel
theorem dX3_has_26 : decode cX3_has 26 = .ok (.ireturn, 1) := by decide +kernel
theorem dX3_sign_0 : decode cX3_sign 0 = .ok (.aload_n 0, 1) := by decide +kernel
theorem dX3_sign_1 : decode cX3_sign 1 = .ok (.iload_n 1, 1) := by decide +kernel
theorem dX3_sign_2 : decode cX3_sign 2 = .ok (.invokevirtual 25, 3) := by decide +kernel
theorem dX3_sign_5 : decode cX3_sign 5 = .ok (.ifCond .eq 17, 3) := by decide +kernel
theorem dX3_sign_8 : decode cX3_sign 8 = .ok (.iload_n 2, 1) := by decide +kernel
theorem dX3_sign_9 : decode cX3_sign 9 = .ok (.ifCond .lt 13, 3) := by decide +kernel
theorem dX3_sign_12 : decode cX3_sign 12 = .ok (.iload_n 2, 1) := by decide +kernel
theorem dX3_sign_13 : decode cX3_sign 13 = .ok (.aload_n 0, 1) := by decide +kernel
theorem dX3_sign_14 : decode cX3_sign 14 = .ok (.getfield 15, 3) := by decide +kernel
theorem dX3_sign_17 : decode cX3_sign 17 = .ok (.iload_n 1, 1) := by decide +kernel
theorem dX3_sign_18 : decode cX3_sign 18 = .ok (.iaload, 1) := by decide +kernel
theorem dX3_sign_19 : decode cX3_sign 19 = .ok (.if_icmp .lt 5, 3) := by decide +kernel
theorem dX3_sign_22 : decode cX3_sign 22 = .ok (.iconst (-1), 1) := by decide +kernel
theorem dX3_sign_23 : decode cX3_sign 23 = .ok (.ireturn, 1) := by decide +kernel
theorem dX3_sign_24 : decode cX3_sign 24 = .ok (.iload_n 1, 1) := by decide +kernel
theorem dX3_sign_25 : decode cX3_sign 25 = .ok (.bipush 40, 2) := by decide +kernel
theorem dX3_sign_27 : decode cX3_sign 27 = .ok (.imul, 1) := by decide +kernel
theorem dX3_sign_28 : decode cX3_sign 28 = .ok (.iload_n 2, 1) := by decide +kernel
theorem dX3_sign_29 : decode cX3_sign 29 = .ok (.iadd, 1) := by decide +kernel
theorem dX3_sign_30 : decode cX3_sign 30 = .ok (.istore_n 3, 1) := by decide +kernel
theorem dX3_sign_31 : decode cX3_sign 31 = .ok (.iload_n 3, 1) := by decide +kernel
theorem dX3_sign_32 : decode cX3_sign 32 = .ok (.aload_n 0, 1) := by decide +kernel
theorem dX3_sign_33 : decode cX3_sign 33 = .ok (.getfield 9, 3) := by decide +kernel
theorem dX3_sign_36 : decode cX3_sign 36 = .ok (.arraylength, 1) := by decide +kernel
theorem dX3_sign_37 : decode cX3_sign 37 = .ok (.if_icmp .ge 12, 3) := by decide +kernel
theorem dX3_sign_40 : decode cX3_sign 40 = .ok (.aload_n 0, 1) := by decide +kernel
theorem dX3_sign_41 : decode cX3_sign 41 = .ok (.getfield 9, 3) := by decide +kernel
theorem dX3_sign_44 : decode cX3_sign 44 = .ok (.iload_n 3, 1) := by decide +kernel
theorem dX3_sign_45 : decode cX3_sign 45 = .ok (.iaload, 1) := by decide +kernel
theorem dX3_sign_46 : decode cX3_sign 46 = .ok (.goto 4, 3) := by decide +kernel
theorem dX3_sign_49 : decode cX3_sign 49 = .ok (.iconst (-1), 1) := by decide +kernel
theorem dX3_sign_50 : decode cX3_sign 50 = .ok (.ireturn, 1) := by decide +kernel
theorem dX3_beginDraft_0 : decode cX3_beginDraft 0 = .ok (.aload_n 0, 1) := by decide +kernel
theorem dX3_beginDraft_1 : decode cX3_beginDraft 1 = .ok (.iconst 0, 1) := by decide +kernel
theorem dX3_beginDraft_2 : decode cX3_beginDraft 2 = .ok (.putfield 29, 3) := by decide +kernel
theorem dX3_beginDraft_5 : decode cX3_beginDraft 5 = .ok (.return_, 1) := by decide +kernel
theorem dX3_growDraft_0 : decode cX3_growDraft 0 = .ok (.aload_n 0, 1) := by decide +kernel
theorem dX3_growDraft_1 : decode cX3_growDraft 1 = .ok (.getfield 29, 3) := by decide +kernel
theorem dX3_growDraft_4 : decode cX3_growDraft 4 = .ok (.ifCond .lt 25, 3) := by decide +kernel
theorem dX3_growDraft_7 : decode cX3_growDraft 7 = .ok (.aload_n 0, 1) := by decide +kernel
theorem dX3_growDraft_8 : decode cX3_growDraft 8 = .ok (.getfield 29, 3) := by decide +kernel
theorem dX3_growDraft_11 : decode cX3_growDraft 11 = .ok (.aload_n 0, 1) := by decide +kernel
theorem dX3_growDraft_12 : decode cX3_growDraft 12 = .ok (.getfield 18, 3) := by decide +kernel
theorem dX3_growDraft_15 : decode cX3_growDraft 15 = .ok (.arraylength, 1) := by decide +kernel
theorem dX3_growDraft_16 : decode cX3_growDraft 16 = .ok (.if_icmp .ge 13, 3) := by decide +kernel
theorem dX3_growDraft_19 : decode cX3_growDraft 19 = .ok (.aload_n 0, 1) := by decide +kernel
theorem dX3_growDraft_20 : decode cX3_growDraft 20 = .ok (.getfield 18, 3) := by decide +kernel
theorem dX3_growDraft_23 : decode cX3_growDraft 23 = .ok (.aload_n 0, 1) := by decide +kernel
theorem dX3_growDraft_24 : decode cX3_growDraft 24 = .ok (.getfield 29, 3) := by decide +kernel
theorem dX3_growDraft_27 : decode cX3_growDraft 27 = .ok (.iload_n 1, 1) := by decide +kernel
theorem dX3_growDraft_28 : decode cX3_growDraft 28 = .ok (.iastore, 1) := by decide +kernel
theorem dX3_growDraft_29 : decode cX3_growDraft 29 = .ok (.aload_n 0, 1) := by decide +kernel
theorem dX3_growDraft_30 : decode cX3_growDraft 30 = .ok (.dup, 1) := by decide +kernel
theorem dX3_growDraft_31 : decode cX3_growDraft 31 = .ok (.getfield 29, 3) := by decide +kernel
theorem dX3_growDraft_34 : decode cX3_growDraft 34 = .ok (.iconst 1, 1) := by decide +kernel
theorem dX3_growDraft_35 : decode cX3_growDraft 35 = .ok (.iadd, 1) := by decide +kernel
theorem dX3_growDraft_36 : decode cX3_growDraft 36 = .ok (.putfield 29, 3) := by decide +kernel
theorem dX3_growDraft_39 : decode cX3_growDraft 39 = .ok (.return_, 1) := by decide +kernel
theorem dX3_draftIsLong_0 : decode cX3_draftIsLong 0 = .ok (.aload_n 0, 1) := by decide +kernel
theorem dX3_draftIsLong_1 : decode cX3_draftIsLong 1 = .ok (.getfield 29, 3) := by decide +kernel
theorem dX3_draftIsLong_4 : decode cX3_draftIsLong 4 = .ok (.bipush 40, 2) := by decide +kernel
theorem dX3_draftIsLong_6 : decode cX3_draftIsLong 6 = .ok (.if_icmp .le 7, 3) := by decide +kernel
theorem dX3_draftIsLong_9 : decode cX3_draftIsLong 9 = .ok (.iconst 1, 1) := by decide +kernel
theorem dX3_draftIsLong_10 : decode cX3_draftIsLong 10 = .ok (.goto 4, 3) := by decide +kernel
theorem dX3_draftIsLong_13 : decode cX3_draftIsLong 13 = .ok (.iconst 0, 1) := by decide +kernel
theorem dX3_draftIsLong_14 : decode cX3_draftIsLong 14 = .ok (.ireturn, 1) := by decide +kernel
theorem dX3_numberOfDraft_0 : decode cX3_numberOfDraft 0 = .ok (.iconst 0, 1) := by decide +kernel
theorem dX3_numberOfDraft_1 : decode cX3_numberOfDraft 1 = .ok (.istore_n 1, 1) := by decide +kernel
theorem dX3_numberOfDraft_2 : decode cX3_numberOfDraft 2 = .ok (.iload_n 1, 1) := by decide +kernel
theorem dX3_numberOfDraft_3 : decode cX3_numberOfDraft 3 = .ok (.aload_n 0, 1) := by decide +kernel
theorem dX3_numberOfDraft_4 : decode cX3_numberOfDraft 4 = .ok (.getfield 21, 3) := by decide +kernel
theorem dX3_numberOfDraft_7 : decode cX3_numberOfDraft 7 = .ok (.if_icmp .ge 19, 3) := by decide +kernel
theorem dX3_numberOfDraft_10 : decode cX3_numberOfDraft 10 = .ok (.aload_n 0, 1) := by decide +kernel
theorem dX3_numberOfDraft_11 : decode cX3_numberOfDraft 11 = .ok (.iload_n 1, 1) := by decide +kernel
theorem dX3_numberOfDraft_12 : decode cX3_numberOfDraft 12 = .ok (.invokevirtual 32, 3) := by decide +kernel
theorem dX3_numberOfDraft_15 : decode cX3_numberOfDraft 15 = .ok (.ifCond .eq 5, 3) := by decide +kernel
theorem dX3_numberOfDraft_18 : decode cX3_numberOfDraft 18 = .ok (.iload_n 1, 1) := by decide +kernel
theorem dX3_numberOfDraft_19 : decode cX3_numberOfDraft 19 = .ok (.ireturn, 1) := by decide +kernel
theorem dX3_numberOfDraft_20 : decode cX3_numberOfDraft 20 = .ok (.iinc 1 1, 3) := by decide +kernel
theorem dX3_numberOfDraft_23 : decode cX3_numberOfDraft 23 = .ok (.goto (-21), 3) := by decide +kernel
theorem dX3_numberOfDraft_26 : decode cX3_numberOfDraft 26 = .ok (.aload_n 0, 1) := by decide +kernel
theorem dX3_numberOfDraft_27 : decode cX3_numberOfDraft 27 = .ok (.getfield 21, 3) := by decide +kernel
theorem dX3_numberOfDraft_30 : decode cX3_numberOfDraft 30 = .ok (.ifCond .lt 15, 3) := by decide +kernel
theorem dX3_numberOfDraft_33 : decode cX3_numberOfDraft 33 = .ok (.aload_n 0, 1) := by decide +kernel
theorem dX3_numberOfDraft_34 : decode cX3_numberOfDraft 34 = .ok (.getfield 21, 3) := by decide +kernel
theorem dX3_numberOfDraft_37 : decode cX3_numberOfDraft 37 = .ok (.aload_n 0, 1) := by decide +kernel
theorem dX3_numberOfDraft_38 : decode cX3_numberOfDraft 38 = .ok (.getfield 15, 3) := by decide +kernel
theorem dX3_numberOfDraft_41 : decode cX3_numberOfDraft 41 = .ok (.arraylength, 1) := by decide +kernel
theorem dX3_numberOfDraft_42 : decode cX3_numberOfDraft 42 = .ok (.if_icmp .lt 5, 3) := by decide +kernel
theorem dX3_numberOfDraft_45 : decode cX3_numberOfDraft 45 = .ok (.iconst (-1), 1) := by decide +kernel
theorem dX3_numberOfDraft_46 : decode cX3_numberOfDraft 46 = .ok (.ireturn, 1) := by decide +kernel
theorem dX3_numberOfDraft_47 : decode cX3_numberOfDraft 47 = .ok (.aload_n 0, 1) := by decide +kernel
theorem dX3_numberOfDraft_48 : decode cX3_numberOfDraft 48 = .ok (.invokevirtual 35, 3) := by decide +kernel
theorem dX3_numberOfDraft_51 : decode cX3_numberOfDraft 51 = .ok (.istore_n 1, 1) := by decide +kernel
theorem dX3_numberOfDraft_52 : decode cX3_numberOfDraft 52 = .ok (.aload_n 0, 1) := by decide +kernel
theorem dX3_numberOfDraft_53 : decode cX3_numberOfDraft 53 = .ok (.getfield 18, 3) := by decide +kernel
theorem dX3_numberOfDraft_56 : decode cX3_numberOfDraft 56 = .ok (.iconst 0, 1) := by decide +kernel
theorem dX3_numberOfDraft_57 : decode cX3_numberOfDraft 57 = .ok (.aload_n 0, 1) := by decide +kernel
theorem dX3_numberOfDraft_58 : decode cX3_numberOfDraft 58 = .ok (.getfield 9, 3) := by decide +kernel
theorem dX3_numberOfDraft_61 : decode cX3_numberOfDraft 61 = .ok (.aload_n 0, 1) := by decide +kernel
theorem dX3_numberOfDraft_62 : decode cX3_numberOfDraft 62 = .ok (.getfield 21, 3) := by decide +kernel
theorem dX3_numberOfDraft_65 : decode cX3_numberOfDraft 65 = .ok (.bipush 40, 2) := by decide +kernel
theorem dX3_numberOfDraft_67 : decode cX3_numberOfDraft 67 = .ok (.imul, 1) := by decide +kernel
theorem dX3_numberOfDraft_68 : decode cX3_numberOfDraft 68 = .ok (.iload_n 1, 1) := by decide +kernel
theorem dX3_numberOfDraft_69 : decode cX3_numberOfDraft 69 = .ok (.invokestatic 39, 3) := by decide +kernel
theorem dX3_numberOfDraft_72 : decode cX3_numberOfDraft 72 = .ok (.aload_n 0, 1) := by decide +kernel
theorem dX3_numberOfDraft_73 : decode cX3_numberOfDraft 73 = .ok (.getfield 15, 3) := by decide +kernel
theorem dX3_numberOfDraft_76 : decode cX3_numberOfDraft 76 = .ok (.aload_n 0, 1) := by decide +kernel
theorem dX3_numberOfDraft_77 : decode cX3_numberOfDraft 77 = .ok (.getfield 21, 3) := by decide +kernel
theorem dX3_numberOfDraft_80 : decode cX3_numberOfDraft 80 = .ok (.iload_n 1, 1) := by decide +kernel
theorem dX3_numberOfDraft_81 : decode cX3_numberOfDraft 81 = .ok (.iastore, 1) := by decide +kernel
theorem dX3_numberOfDraft_82 : decode cX3_numberOfDraft 82 = .ok (.aload_n 0, 1) := by decide +kernel
theorem dX3_numberOfDraft_83 : decode cX3_numberOfDraft 83 = .ok (.dup, 1) := by decide +kernel
theorem dX3_numberOfDraft_84 : decode cX3_numberOfDraft 84 = .ok (.getfield 21, 3) := by decide +kernel
theorem dX3_numberOfDraft_87 : decode cX3_numberOfDraft 87 = .ok (.iconst 1, 1) := by decide +kernel
theorem dX3_numberOfDraft_88 : decode cX3_numberOfDraft 88 = .ok (.iadd, 1) := by decide +kernel
theorem dX3_numberOfDraft_89 : decode cX3_numberOfDraft 89 = .ok (.putfield 21, 3) := by decide +kernel
theorem dX3_numberOfDraft_92 : decode cX3_numberOfDraft 92 = .ok (.aload_n 0, 1) := by decide +kernel
theorem dX3_numberOfDraft_93 : decode cX3_numberOfDraft 93 = .ok (.getfield 21, 3) := by decide +kernel
theorem dX3_numberOfDraft_96 : decode cX3_numberOfDraft 96 = .ok (.iconst 1, 1) := by decide +kernel
theorem dX3_numberOfDraft_97 : decode cX3_numberOfDraft 97 = .ok (.isub, 1) := by decide +kernel
theorem dX3_numberOfDraft_98 : decode cX3_numberOfDraft 98 = .ok (.ireturn, 1) := by decide +kernel
theorem dX3_draftLength_0 : decode cX3_draftLength 0 = .ok (.aload_n 0, 1) := by decide +kernel
theorem dX3_draftLength_1 : decode cX3_draftLength 1 = .ok (.invokevirtual 45, 3) := by decide +kernel
theorem dX3_draftLength_4 : decode cX3_draftLength 4 = .ok (.ifCond .eq 8, 3) := by decide +kernel
theorem dX3_draftLength_7 : decode cX3_draftLength 7 = .ok (.bipush 40, 2) := by decide +kernel
theorem dX3_draftLength_9 : decode cX3_draftLength 9 = .ok (.goto 7, 3) := by decide +kernel
theorem dX3_draftLength_12 : decode cX3_draftLength 12 = .ok (.aload_n 0, 1) := by decide +kernel
theorem dX3_draftLength_13 : decode cX3_draftLength 13 = .ok (.getfield 29, 3) := by decide +kernel
theorem dX3_draftLength_16 : decode cX3_draftLength 16 = .ok (.ireturn, 1) := by decide +kernel
theorem dX3_isDraft_0 : decode cX3_isDraft 0 = .ok (.aload_n 0, 1) := by decide +kernel
theorem dX3_isDraft_1 : decode cX3_isDraft 1 = .ok (.iload_n 1, 1) := by decide +kernel
theorem dX3_isDraft_2 : decode cX3_isDraft 2 = .ok (.invokevirtual 25, 3) := by decide +kernel
theorem dX3_isDraft_5 : decode cX3_isDraft 5 = .ok (.ifCond .eq 16, 3) := by decide +kernel
theorem dX3_isDraft_8 : decode cX3_isDraft 8 = .ok (.aload_n 0, 1) := by decide +kernel
theorem dX3_isDraft_9 : decode cX3_isDraft 9 = .ok (.getfield 15, 3) := by decide +kernel
theorem dX3_isDraft_12 : decode cX3_isDraft 12 = .ok (.iload_n 1, 1) := by decide +kernel
theorem dX3_isDraft_13 : decode cX3_isDraft 13 = .ok (.iaload, 1) := by decide +kernel
theorem dX3_isDraft_14 : decode cX3_isDraft 14 = .ok (.aload_n 0, 1) := by decide +kernel
theorem dX3_isDraft_15 : decode cX3_isDraft 15 = .ok (.invokevirtual 35, 3) := by decide +kernel
theorem dX3_isDraft_18 : decode cX3_isDraft 18 = .ok (.if_icmp .eq 5, 3) := by decide +kernel
theorem dX3_isDraft_21 : decode cX3_isDraft 21 = .ok (.iconst 0, 1) := by decide +kernel
theorem dX3_isDraft_22 : decode cX3_isDraft 22 = .ok (.ireturn, 1) := by decide +kernel
theorem dX3_isDraft_23 : decode cX3_isDraft 23 = .ok (.iconst 0, 1) := by decide +kernel
theorem dX3_isDraft_24 : decode cX3_isDraft 24 = .ok (.istore_n 2, 1) := by decide +kernel
theorem dX3_isDraft_25 : decode cX3_isDraft 25 = .ok (.iload_n 2, 1) := by decide +kernel
theorem dX3_isDraft_26 : decode cX3_isDraft 26 = .ok (.aload_n 0, 1) := by decide +kernel
theorem dX3_isDraft_27 : decode cX3_isDraft 27 = .ok (.getfield 15, 3) := by decide +kernel
theorem dX3_isDraft_30 : decode cX3_isDraft 30 = .ok (.iload_n 1, 1) := by decide +kernel
theorem dX3_isDraft_31 : decode cX3_isDraft 31 = .ok (.iaload, 1) := by decide +kernel
theorem dX3_isDraft_32 : decode cX3_isDraft 32 = .ok (.if_icmp .ge 35, 3) := by decide +kernel
theorem dX3_isDraft_35 : decode cX3_isDraft 35 = .ok (.iload_n 2, 1) := by decide +kernel
theorem dX3_isDraft_36 : decode cX3_isDraft 36 = .ok (.aload_n 0, 1) := by decide +kernel
theorem dX3_isDraft_37 : decode cX3_isDraft 37 = .ok (.getfield 18, 3) := by decide +kernel
theorem dX3_isDraft_40 : decode cX3_isDraft 40 = .ok (.arraylength, 1) := by decide +kernel
theorem dX3_isDraft_41 : decode cX3_isDraft 41 = .ok (.if_icmp .ge 26, 3) := by decide +kernel
theorem dX3_isDraft_44 : decode cX3_isDraft 44 = .ok (.aload_n 0, 1) := by decide +kernel
theorem dX3_isDraft_45 : decode cX3_isDraft 45 = .ok (.iload_n 1, 1) := by decide +kernel
theorem dX3_isDraft_46 : decode cX3_isDraft 46 = .ok (.iload_n 2, 1) := by decide +kernel
theorem dX3_isDraft_47 : decode cX3_isDraft 47 = .ok (.invokevirtual 49, 3) := by decide +kernel
theorem dX3_isDraft_50 : decode cX3_isDraft 50 = .ok (.aload_n 0, 1) := by decide +kernel
theorem dX3_isDraft_51 : decode cX3_isDraft 51 = .ok (.getfield 18, 3) := by decide +kernel
theorem dX3_isDraft_54 : decode cX3_isDraft 54 = .ok (.iload_n 2, 1) := by decide +kernel
theorem dX3_isDraft_55 : decode cX3_isDraft 55 = .ok (.iaload, 1) := by decide +kernel
theorem dX3_isDraft_56 : decode cX3_isDraft 56 = .ok (.if_icmp .eq 5, 3) := by decide +kernel
theorem dX3_isDraft_59 : decode cX3_isDraft 59 = .ok (.iconst 0, 1) := by decide +kernel
theorem dX3_isDraft_60 : decode cX3_isDraft 60 = .ok (.ireturn, 1) := by decide +kernel
theorem dX3_isDraft_61 : decode cX3_isDraft 61 = .ok (.iinc 2 1, 3) := by decide +kernel
theorem dX3_isDraft_64 : decode cX3_isDraft 64 = .ok (.goto (-39), 3) := by decide +kernel
theorem dX3_isDraft_67 : decode cX3_isDraft 67 = .ok (.iconst 1, 1) := by decide +kernel
theorem dX3_isDraft_68 : decode cX3_isDraft 68 = .ok (.ireturn, 1) := by decide +kernel
theorem dX3_allDiffer_0 : decode cX3_allDiffer 0 = .ok (.iconst 0, 1) := by decide +kernel
theorem dX3_allDiffer_1 : decode cX3_allDiffer 1 = .ok (.istore_n 1, 1) := by decide +kernel
theorem dX3_allDiffer_2 : decode cX3_allDiffer 2 = .ok (.iload_n 1, 1) := by decide +kernel
theorem dX3_allDiffer_3 : decode cX3_allDiffer 3 = .ok (.aload_n 0, 1) := by decide +kernel
theorem dX3_allDiffer_4 : decode cX3_allDiffer 4 = .ok (.getfield 21, 3) := by decide +kernel
theorem dX3_allDiffer_7 : decode cX3_allDiffer 7 = .ok (.if_icmp .ge 33, 3) := by decide +kernel
theorem dX3_allDiffer_10 : decode cX3_allDiffer 10 = .ok (.iconst 0, 1) := by decide +kernel
theorem dX3_allDiffer_11 : decode cX3_allDiffer 11 = .ok (.istore_n 2, 1) := by decide +kernel
theorem dX3_allDiffer_12 : decode cX3_allDiffer 12 = .ok (.iload_n 2, 1) := by decide +kernel
theorem dX3_allDiffer_13 : decode cX3_allDiffer 13 = .ok (.iload_n 1, 1) := by decide +kernel
theorem dX3_allDiffer_14 : decode cX3_allDiffer 14 = .ok (.if_icmp .ge 20, 3) := by decide +kernel
theorem dX3_allDiffer_17 : decode cX3_allDiffer 17 = .ok (.aload_n 0, 1) := by decide +kernel
theorem dX3_allDiffer_18 : decode cX3_allDiffer 18 = .ok (.iload_n 1, 1) := by decide +kernel
theorem dX3_allDiffer_19 : decode cX3_allDiffer 19 = .ok (.iload_n 2, 1) := by decide +kernel
theorem dX3_allDiffer_20 : decode cX3_allDiffer 20 = .ok (.invokevirtual 53, 3) := by decide +kernel
theorem dX3_allDiffer_23 : decode cX3_allDiffer 23 = .ok (.ifCond .eq 5, 3) := by decide +kernel
theorem dX3_allDiffer_26 : decode cX3_allDiffer 26 = .ok (.iconst 0, 1) := by decide +kernel
theorem dX3_allDiffer_27 : decode cX3_allDiffer 27 = .ok (.ireturn, 1) := by decide +kernel
theorem dX3_allDiffer_28 : decode cX3_allDiffer 28 = .ok (.iinc 2 1, 3) := by decide +kernel
theorem dX3_allDiffer_31 : decode cX3_allDiffer 31 = .ok (.goto (-19), 3) := by decide +kernel
theorem dX3_allDiffer_34 : decode cX3_allDiffer 34 = .ok (.iinc 1 1, 3) := by decide +kernel
theorem dX3_allDiffer_37 : decode cX3_allDiffer 37 = .ok (.goto (-35), 3) := by decide +kernel
theorem dX3_allDiffer_40 : decode cX3_allDiffer 40 = .ok (.iconst 1, 1) := by decide +kernel
theorem dX3_allDiffer_41 : decode cX3_allDiffer 41 = .ok (.ireturn, 1) := by decide +kernel
theorem dX3_areSame_0 : decode cX3_areSame 0 = .ok (.iconst 0, 1) := by decide +kernel
theorem dX3_areSame_1 : decode cX3_areSame 1 = .ok (.istore_n 3, 1) := by decide +kernel
theorem dX3_areSame_2 : decode cX3_areSame 2 = .ok (.iload_n 3, 1) := by decide +kernel
theorem dX3_areSame_3 : decode cX3_areSame 3 = .ok (.bipush 40, 2) := by decide +kernel
theorem dX3_areSame_5 : decode cX3_areSame 5 = .ok (.if_icmp .gt 26, 3) := by decide +kernel
theorem dX3_areSame_8 : decode cX3_areSame 8 = .ok (.aload_n 0, 1) := by decide +kernel
theorem dX3_areSame_9 : decode cX3_areSame 9 = .ok (.iload_n 1, 1) := by decide +kernel
theorem dX3_areSame_10 : decode cX3_areSame 10 = .ok (.iload_n 3, 1) := by decide +kernel
theorem dX3_areSame_11 : decode cX3_areSame 11 = .ok (.invokevirtual 49, 3) := by decide +kernel
theorem dX3_areSame_14 : decode cX3_areSame 14 = .ok (.aload_n 0, 1) := by decide +kernel
theorem dX3_areSame_15 : decode cX3_areSame 15 = .ok (.iload_n 2, 1) := by decide +kernel
theorem dX3_areSame_16 : decode cX3_areSame 16 = .ok (.iload_n 3, 1) := by decide +kernel
theorem dX3_areSame_17 : decode cX3_areSame 17 = .ok (.invokevirtual 49, 3) := by decide +kernel
theorem dX3_areSame_20 : decode cX3_areSame 20 = .ok (.if_icmp .eq 5, 3) := by decide +kernel
theorem dX3_areSame_23 : decode cX3_areSame 23 = .ok (.iconst 0, 1) := by decide +kernel
theorem dX3_areSame_24 : decode cX3_areSame 24 = .ok (.ireturn, 1) := by decide +kernel
theorem dX3_areSame_25 : decode cX3_areSame 25 = .ok (.iinc 3 1, 3) := by decide +kernel
theorem dX3_areSame_28 : decode cX3_areSame 28 = .ok (.goto (-26), 3) := by decide +kernel
theorem dX3_areSame_31 : decode cX3_areSame 31 = .ok (.iconst 1, 1) := by decide +kernel
theorem dX3_areSame_32 : decode cX3_areSame 32 = .ok (.ireturn, 1) := by decide +kernel
end
section
theorem dX4_init_0 : decode cX4_init 0 = .ok (.aload_n 0, 1) := by decide +kernel
theorem dX4_init_1 : decode cX4_init 1 = .ok (.invokespecial 3, 3) := by decide +kernel
theorem dX4_init_4 : decode cX4_init 4 = .ok (.aload_n 0, 1) := by decide +kernel
theorem dX4_init_5 : decode cX4_init 5 = .ok (.sipush 300, 3) := by decide +kernel
theorem dX4_init_8 : decode cX4_init 8 = .ok (.newarray .int, 2) := by decide +kernel
theorem dX4_init_10 : decode cX4_init 10 = .ok (.putfield 9, 3) := by decide +kernel
theorem dX4_init_13 : decode cX4_init 13 = .ok (.return_, 1) := by decide +kernel
theorem dX4_report_0 : decode cX4_report 0 = .ok (.aload_n 0, 1) := by decide +kernel
theorem dX4_report_1 : decode cX4_report 1 = .ok (.getfield 15, 3) := by decide +kernel
theorem dX4_report_4 : decode cX4_report 4 = .ok (.iconst 3, 1) := by decide +kernel
theorem dX4_report_5 : decode cX4_report 5 = .ok (.imul, 1) := by decide +kernel
theorem dX4_report_6 : decode cX4_report 6 = .ok (.istore 4, 2) := by decide +kernel
theorem dX4_report_8 : decode cX4_report 8 = .ok (.aload_n 0, 1) := by decide +kernel
theorem dX4_report_9 : decode cX4_report 9 = .ok (.getfield 15, 3) := by decide +kernel
theorem dX4_report_12 : decode cX4_report 12 = .ok (.ifCond .lt 52, 3) := by decide +kernel
theorem dX4_report_15 : decode cX4_report 15 = .ok (.aload_n 0, 1) := by decide +kernel
theorem dX4_report_16 : decode cX4_report 16 = .ok (.getfield 15, 3) := by decide +kernel
theorem dX4_report_19 : decode cX4_report 19 = .ok (.bipush 100, 2) := by decide +kernel
theorem dX4_report_21 : decode cX4_report 21 = .ok (.if_icmp .ge 43, 3) := by decide +kernel
theorem dX4_report_24 : decode cX4_report 24 = .ok (.iload 4, 2) := by decide +kernel
theorem dX4_report_26 : decode cX4_report 26 = .ok (.iconst 3, 1) := by decide +kernel
theorem dX4_report_27 : decode cX4_report 27 = .ok (.iadd, 1) := by decide +kernel
theorem dX4_report_28 : decode cX4_report 28 = .ok (.aload_n 0, 1) := by decide +kernel
theorem dX4_report_29 : decode cX4_report 29 = .ok (.getfield 9, 3) := by decide +kernel
theorem dX4_report_32 : decode cX4_report 32 = .ok (.arraylength, 1) := by decide +kernel
theorem dX4_report_33 : decode cX4_report 33 = .ok (.if_icmp .gt 31, 3) := by decide +kernel
theorem dX4_report_36 : decode cX4_report 36 = .ok (.aload_n 0, 1) := by decide +kernel
theorem dX4_report_37 : decode cX4_report 37 = .ok (.getfield 9, 3) := by decide +kernel
theorem dX4_report_40 : decode cX4_report 40 = .ok (.iload 4, 2) := by decide +kernel
theorem dX4_report_42 : decode cX4_report 42 = .ok (.iload_n 1, 1) := by decide +kernel
theorem dX4_report_43 : decode cX4_report 43 = .ok (.iastore, 1) := by decide +kernel
theorem dX4_report_44 : decode cX4_report 44 = .ok (.aload_n 0, 1) := by decide +kernel
theorem dX4_report_45 : decode cX4_report 45 = .ok (.getfield 9, 3) := by decide +kernel
theorem dX4_report_48 : decode cX4_report 48 = .ok (.iload 4, 2) := by decide +kernel
theorem dX4_report_50 : decode cX4_report 50 = .ok (.iconst 1, 1) := by decide +kernel
theorem dX4_report_51 : decode cX4_report 51 = .ok (.iadd, 1) := by decide +kernel
theorem dX4_report_52 : decode cX4_report 52 = .ok (.iload_n 2, 1) := by decide +kernel
theorem dX4_report_53 : decode cX4_report 53 = .ok (.iastore, 1) := by decide +kernel
theorem dX4_report_54 : decode cX4_report 54 = .ok (.aload_n 0, 1) := by decide +kernel
theorem dX4_report_55 : decode cX4_report 55 = .ok (.getfield 9, 3) := by decide +kernel
theorem dX4_report_58 : decode cX4_report 58 = .ok (.iload 4, 2) := by decide +kernel
theorem dX4_report_60 : decode cX4_report 60 = .ok (.iconst 2, 1) := by decide +kernel
theorem dX4_report_61 : decode cX4_report 61 = .ok (.iadd, 1) := by decide +kernel
theorem dX4_report_62 : decode cX4_report 62 = .ok (.iload_n 3, 1) := by decide +kernel
theorem dX4_report_63 : decode cX4_report 63 = .ok (.iastore, 1) := by decide +kernel
theorem dX4_report_64 : decode cX4_report 64 = .ok (.aload_n 0, 1) := by decide +kernel
theorem dX4_report_65 : decode cX4_report 65 = .ok (.dup, 1) := by decide +kernel
theorem dX4_report_66 : decode cX4_report 66 = .ok (.getfield 15, 3) := by decide +kernel
theorem dX4_report_69 : decode cX4_report 69 = .ok (.iconst 1, 1) := by decide +kernel
theorem dX4_report_70 : decode cX4_report 70 = .ok (.iadd, 1) := by decide +kernel
theorem dX4_report_71 : decode cX4_report 71 = .ok (.putfield 15, 3) := by decide +kernel
theorem dX4_report_74 : decode cX4_report 74 = .ok (.return_, 1) := by decide +kernel
theorem dX4_part_0 : decode cX4_part 0 = .ok (.iload_n 1, 1) := by decide +kernel
theorem dX4_part_1 : decode cX4_part 1 = .ok (.ifCond .lt 26, 3) := by decide +kernel
theorem dX4_part_4 : decode cX4_part 4 = .ok (.iload_n 1, 1) := by decide +kernel
theorem dX4_part_5 : decode cX4_part 5 = .ok (.aload_n 0, 1) := by decide +kernel
theorem dX4_part_6 : decode cX4_part 6 = .ok (.getfield 15, 3) := by decide +kernel
theorem dX4_part_9 : decode cX4_part 9 = .ok (.if_icmp .ge 18, 3) := by decide +kernel
theorem dX4_part_12 : decode cX4_part 12 = .ok (.iload_n 1, 1) := by decide +kernel
theorem dX4_part_13 : decode cX4_part 13 = .ok (.bipush 100, 2) := by decide +kernel
theorem dX4_part_15 : decode cX4_part 15 = .ok (.if_icmp .ge 12, 3) := by decide +kernel
theorem dX4_part_18 : decode cX4_part 18 = .ok (.iload_n 2, 1) := by decide +kernel
theorem dX4_part_19 : decode cX4_part 19 = .ok (.ifCond .lt 8, 3) := by decide +kernel
theorem dX4_part_22 : decode cX4_part 22 = .ok (.iload_n 2, 1) := by decide +kernel
theorem dX4_part_23 : decode cX4_part 23 = .ok (.iconst 3, 1) := by decide +kernel
theorem dX4_part_24 : decode cX4_part 24 = .ok (.if_icmp .lt 5, 3) := by decide +kernel
theorem dX4_part_27 : decode cX4_part 27 = .ok (.iconst (-1), 1) := by decide +kernel
theorem dX4_part_28 : decode cX4_part 28 = .ok (.ireturn, 1) := by decide +kernel
theorem dX4_part_29 : decode cX4_part 29 = .ok (.iload_n 1, 1) := by decide +kernel
theorem dX4_part_30 : decode cX4_part 30 = .ok (.iconst 3, 1) := by decide +kernel
theorem dX4_part_31 : decode cX4_part 31 = .ok (.imul, 1) := by decide +kernel
theorem dX4_part_32 : decode cX4_part 32 = .ok (.iload_n 2, 1) := by decide +kernel
theorem dX4_part_33 : decode cX4_part 33 = .ok (.iadd, 1) := by decide +kernel
theorem dX4_part_34 : decode cX4_part 34 = .ok (.istore_n 3, 1) := by decide +kernel
theorem dX4_part_35 : decode cX4_part 35 = .ok (.iload_n 3, 1) := by decide +kernel
theorem dX4_part_36 : decode cX4_part 36 = .ok (.aload_n 0, 1) := by decide +kernel
theorem dX4_part_37 : decode cX4_part 37 = .ok (.getfield 9, 3) := by decide +kernel
theorem dX4_part_40 : decode cX4_part 40 = .ok (.arraylength, 1) := by decide +kernel
theorem dX4_part_41 : decode cX4_part 41 = .ok (.if_icmp .ge 12, 3) := by decide +kernel
theorem dX4_part_44 : decode cX4_part 44 = .ok (.aload_n 0, 1) := by decide +kernel
theorem dX4_part_45 : decode cX4_part 45 = .ok (.getfield 9, 3) := by decide +kernel
theorem dX4_part_48 : decode cX4_part 48 = .ok (.iload_n 3, 1) := by decide +kernel
theorem dX4_part_49 : decode cX4_part 49 = .ok (.iaload, 1) := by decide +kernel
theorem dX4_part_50 : decode cX4_part 50 = .ok (.goto 4, 3) := by decide +kernel
theorem dX4_part_53 : decode cX4_part 53 = .ok (.iconst (-1), 1) := by decide +kernel
theorem dX4_part_54 : decode cX4_part 54 = .ok (.ireturn, 1) := by decide +kernel
end
section
theorem dX5_init_0 : decode cX5_init 0 = .ok (.aload_n 0, 1) := by decide +kernel
theorem dX5_init_1 : decode cX5_init 1 = .ok (.invokespecial 3, 3) := by decide +kernel
theorem dX5_init_4 : decode cX5_init 4 = .ok (.aload_n 0, 1) := by decide +kernel
theorem dX5_init_5 : decode cX5_init 5 = .ok (.sipush 3600, 3) := by decide +kernel
theorem dX5_init_8 : decode cX5_init 8 = .ok (.newarray .int, 2) := by decide +kernel
theorem dX5_init_10 : decode cX5_init 10 = .ok (.putfield 9, 3) := by decide +kernel
theorem dX5_init_13 : decode cX5_init 13 = .ok (.return_, 1) := by decide +kernel
theorem dX5_isFull_0 : decode cX5_isFull 0 = .ok (.aload_n 0, 1) := by decide +kernel
theorem dX5_isFull_1 : decode cX5_isFull 1 = .ok (.getfield 15, 3) := by decide +kernel
theorem dX5_isFull_4 : decode cX5_isFull 4 = .ok (.sipush 600, 3) := by decide +kernel
theorem dX5_isFull_7 : decode cX5_isFull 7 = .ok (.if_icmp .lt 7, 3) := by decide +kernel
theorem dX5_isFull_10 : decode cX5_isFull 10 = .ok (.iconst 1, 1) := by decide +kernel
theorem dX5_isFull_11 : decode cX5_isFull 11 = .ok (.goto 4, 3) := by decide +kernel
theorem dX5_isFull_14 : decode cX5_isFull 14 = .ok (.iconst 0, 1) := by decide +kernel
theorem dX5_isFull_15 : decode cX5_isFull 15 = .ok (.ireturn, 1) := by decide +kernel
theorem dX5_has_0 : decode cX5_has 0 = .ok (.iload_n 1, 1) := by decide +kernel
theorem dX5_has_1 : decode cX5_has 1 = .ok (.ifCond .lt 15, 3) := by decide +kernel
theorem dX5_has_4 : decode cX5_has 4 = .ok (.iload_n 1, 1) := by decide +kernel
theorem dX5_has_5 : decode cX5_has 5 = .ok (.aload_n 0, 1) := by decide +kernel
theorem dX5_has_6 : decode cX5_has 6 = .ok (.getfield 15, 3) := by decide +kernel
theorem dX5_has_9 : decode cX5_has 9 = .ok (.if_icmp .ge 7, 3) := by decide +kernel
theorem dX5_has_12 : decode cX5_has 12 = .ok (.iconst 1, 1) := by decide +kernel
theorem dX5_has_13 : decode cX5_has 13 = .ok (.goto 4, 3) := by decide +kernel
theorem dX5_has_16 : decode cX5_has 16 = .ok (.iconst 0, 1) := by decide +kernel
theorem dX5_has_17 : decode cX5_has 17 = .ok (.ireturn, 1) := by decide +kernel
theorem dX5_put_0 : decode cX5_put 0 = .ok (.aload_n 0, 1) := by decide +kernel
theorem dX5_put_1 : decode cX5_put 1 = .ok (.getfield 15, 3) := by decide +kernel
theorem dX5_put_4 : decode cX5_put 4 = .ok (.bipush 6, 2) := by decide +kernel
theorem dX5_put_6 : decode cX5_put 6 = .ok (.imul, 1) := by decide +kernel
theorem dX5_put_7 : decode cX5_put 7 = .ok (.istore 6, 2) := by decide +kernel
theorem dX5_put_9 : decode cX5_put 9 = .ok (.aload_n 0, 1) := by decide +kernel
theorem dX5_put_10 : decode cX5_put 10 = .ok (.invokevirtual 19, 3) := by decide +kernel
theorem dX5_put_13 : decode cX5_put 13 = .ok (.ifCond .ne 21, 3) := by decide +kernel
theorem dX5_put_16 : decode cX5_put 16 = .ok (.iload 6, 2) := by decide +kernel
theorem dX5_put_18 : decode cX5_put 18 = .ok (.ifCond .lt 16, 3) := by decide +kernel
theorem dX5_put_21 : decode cX5_put 21 = .ok (.iload 6, 2) := by decide +kernel
theorem dX5_put_23 : decode cX5_put 23 = .ok (.bipush 6, 2) := by decide +kernel
theorem dX5_put_25 : decode cX5_put 25 = .ok (.iadd, 1) := by decide +kernel
theorem dX5_put_26 : decode cX5_put 26 = .ok (.aload_n 0, 1) := by decide +kernel
theorem dX5_put_27 : decode cX5_put 27 = .ok (.getfield 9, 3) := by decide +kernel
theorem dX5_put_30 : decode cX5_put 30 = .ok (.arraylength, 1) := by decide +kernel
theorem dX5_put_31 : decode cX5_put 31 = .ok (.if_icmp .le 6, 3) := by decide +kernel
theorem dX5_put_34 : decode cX5_put 34 = .ok (.bipush (-4), 2) := by decide +kernel
theorem dX5_put_36 : decode cX5_put 36 = .ok (.ireturn, 1) := by decide +kernel
theorem dX5_put_37 : decode cX5_put 37 = .ok (.aload_n 0, 1) := by decide +kernel
theorem dX5_put_38 : decode cX5_put 38 = .ok (.getfield 9, 3) := by decide +kernel
theorem dX5_put_41 : decode cX5_put 41 = .ok (.iload 6, 2) := by decide +kernel
theorem dX5_put_43 : decode cX5_put 43 = .ok (.iload_n 1, 1) := by decide +kernel
theorem dX5_put_44 : decode cX5_put 44 = .ok (.iastore, 1) := by decide +kernel
theorem dX5_put_45 : decode cX5_put 45 = .ok (.aload_n 0, 1) := by decide +kernel
theorem dX5_put_46 : decode cX5_put 46 = .ok (.getfield 9, 3) := by decide +kernel
theorem dX5_put_49 : decode cX5_put 49 = .ok (.iload 6, 2) := by decide +kernel
theorem dX5_put_51 : decode cX5_put 51 = .ok (.iconst 1, 1) := by decide +kernel
theorem dX5_put_52 : decode cX5_put 52 = .ok (.iadd, 1) := by decide +kernel
theorem dX5_put_53 : decode cX5_put 53 = .ok (.iload_n 2, 1) := by decide +kernel
theorem dX5_put_54 : decode cX5_put 54 = .ok (.iastore, 1) := by decide +kernel
theorem dX5_put_55 : decode cX5_put 55 = .ok (.aload_n 0, 1) := by decide +kernel
theorem dX5_put_56 : decode cX5_put 56 = .ok (.getfield 9, 3) := by decide +kernel
theorem dX5_put_59 : decode cX5_put 59 = .ok (.iload 6, 2) := by decide +kernel
theorem dX5_put_61 : decode cX5_put 61 = .ok (.iconst 2, 1) := by decide +kernel
theorem dX5_put_62 : decode cX5_put 62 = .ok (.iadd, 1) := by decide +kernel
theorem dX5_put_63 : decode cX5_put 63 = .ok (.iload_n 3, 1) := by decide +kernel
theorem dX5_put_64 : decode cX5_put 64 = .ok (.iastore, 1) := by decide +kernel
theorem dX5_put_65 : decode cX5_put 65 = .ok (.aload_n 0, 1) := by decide +kernel
theorem dX5_put_66 : decode cX5_put 66 = .ok (.getfield 9, 3) := by decide +kernel
theorem dX5_put_69 : decode cX5_put 69 = .ok (.iload 6, 2) := by decide +kernel
theorem dX5_put_71 : decode cX5_put 71 = .ok (.iconst 3, 1) := by decide +kernel
theorem dX5_put_72 : decode cX5_put 72 = .ok (.iadd, 1) := by decide +kernel
theorem dX5_put_73 : decode cX5_put 73 = .ok (.aload 4, 2) := by decide +kernel
theorem dX5_put_75 : decode cX5_put 75 = .ok (.getfield 23, 3) := by decide +kernel
theorem dX5_put_78 : decode cX5_put 78 = .ok (.iastore, 1) := by decide +kernel
theorem dX5_put_79 : decode cX5_put 79 = .ok (.aload_n 0, 1) := by decide +kernel
theorem dX5_put_80 : decode cX5_put 80 = .ok (.getfield 9, 3) := by decide +kernel
theorem dX5_put_83 : decode cX5_put 83 = .ok (.iload 6, 2) := by decide +kernel
theorem dX5_put_85 : decode cX5_put 85 = .ok (.iconst 4, 1) := by decide +kernel
theorem dX5_put_86 : decode cX5_put 86 = .ok (.iadd, 1) := by decide +kernel
theorem dX5_put_87 : decode cX5_put 87 = .ok (.aload 4, 2) := by decide +kernel
theorem dX5_put_89 : decode cX5_put 89 = .ok (.getfield 28, 3) := by decide +kernel
theorem dX5_put_92 : decode cX5_put 92 = .ok (.iconst 1, 1) := by decide +kernel
theorem dX5_put_93 : decode cX5_put 93 = .ok (.isub, 1) := by decide +kernel
theorem dX5_put_94 : decode cX5_put 94 = .ok (.iastore, 1) := by decide +kernel
theorem dX5_put_95 : decode cX5_put 95 = .ok (.aload_n 0, 1) := by decide +kernel
theorem dX5_put_96 : decode cX5_put 96 = .ok (.getfield 9, 3) := by decide +kernel
theorem dX5_put_99 : decode cX5_put 99 = .ok (.iload 6, 2) := by decide +kernel
theorem dX5_put_101 : decode cX5_put 101 = .ok (.iconst 5, 1) := by decide +kernel
theorem dX5_put_102 : decode cX5_put 102 = .ok (.iadd, 1) := by decide +kernel
theorem dX5_put_103 : decode cX5_put 103 = .ok (.iload 5, 2) := by decide +kernel
theorem dX5_put_105 : decode cX5_put 105 = .ok (.iastore, 1) := by decide +kernel
theorem dX5_put_106 : decode cX5_put 106 = .ok (.aload_n 0, 1) := by decide +kernel
theorem dX5_put_107 : decode cX5_put 107 = .ok (.dup, 1) := by decide +kernel
theorem dX5_put_108 : decode cX5_put 108 = .ok (.getfield 15, 3) := by decide +kernel
theorem dX5_put_111 : decode cX5_put 111 = .ok (.iconst 1, 1) := by decide +kernel
theorem dX5_put_112 : decode cX5_put 112 = .ok (.iadd, 1) := by decide +kernel
theorem dX5_put_113 : decode cX5_put 113 = .ok (.putfield 15, 3) := by decide +kernel
theorem dX5_put_116 : decode cX5_put 116 = .ok (.aload_n 0, 1) := by decide +kernel
theorem dX5_put_117 : decode cX5_put 117 = .ok (.getfield 15, 3) := by decide +kernel
theorem dX5_put_120 : decode cX5_put 120 = .ok (.iconst 1, 1) := by decide +kernel
theorem dX5_put_121 : decode cX5_put 121 = .ok (.isub, 1) := by decide +kernel
theorem dX5_put_122 : decode cX5_put 122 = .ok (.ireturn, 1) := by decide +kernel
theorem dX5_part_0 : decode cX5_part 0 = .ok (.iload_n 1, 1) := by decide +kernel
theorem dX5_part_1 : decode cX5_part 1 = .ok (.bipush 6, 2) := by decide +kernel
theorem dX5_part_3 : decode cX5_part 3 = .ok (.imul, 1) := by decide +kernel
theorem dX5_part_4 : decode cX5_part 4 = .ok (.iload_n 2, 1) := by decide +kernel
theorem dX5_part_5 : decode cX5_part 5 = .ok (.iadd, 1) := by decide +kernel
theorem dX5_part_6 : decode cX5_part 6 = .ok (.istore_n 3, 1) := by decide +kernel
theorem dX5_part_7 : decode cX5_part 7 = .ok (.aload_n 0, 1) := by decide +kernel
theorem dX5_part_8 : decode cX5_part 8 = .ok (.iload_n 1, 1) := by decide +kernel
theorem dX5_part_9 : decode cX5_part 9 = .ok (.invokevirtual 31, 3) := by decide +kernel
theorem dX5_part_12 : decode cX5_part 12 = .ok (.ifCond .eq 25, 3) := by decide +kernel
theorem dX5_part_15 : decode cX5_part 15 = .ok (.iload_n 3, 1) := by decide +kernel
theorem dX5_part_16 : decode cX5_part 16 = .ok (.ifCond .lt 21, 3) := by decide +kernel
theorem dX5_part_19 : decode cX5_part 19 = .ok (.iload_n 3, 1) := by decide +kernel
theorem dX5_part_20 : decode cX5_part 20 = .ok (.aload_n 0, 1) := by decide +kernel
theorem dX5_part_21 : decode cX5_part 21 = .ok (.getfield 9, 3) := by decide +kernel
theorem dX5_part_24 : decode cX5_part 24 = .ok (.arraylength, 1) := by decide +kernel
theorem dX5_part_25 : decode cX5_part 25 = .ok (.if_icmp .ge 12, 3) := by decide +kernel
theorem dX5_part_28 : decode cX5_part 28 = .ok (.aload_n 0, 1) := by decide +kernel
theorem dX5_part_29 : decode cX5_part 29 = .ok (.getfield 9, 3) := by decide +kernel
theorem dX5_part_32 : decode cX5_part 32 = .ok (.iload_n 3, 1) := by decide +kernel
theorem dX5_part_33 : decode cX5_part 33 = .ok (.iaload, 1) := by decide +kernel
theorem dX5_part_34 : decode cX5_part 34 = .ok (.goto 4, 3) := by decide +kernel
theorem dX5_part_37 : decode cX5_part 37 = .ok (.iconst 0, 1) := by decide +kernel
theorem dX5_part_38 : decode cX5_part 38 = .ok (.ireturn, 1) := by decide +kernel
end
section
theorem dX6_init_0 : decode cX6_init 0 = .ok (.aload_n 0, 1) := by decide +kernel
theorem dX6_init_1 : decode cX6_init 1 = .ok (.invokespecial 1, 3) := by decide +kernel
theorem dX6_init_4 : decode cX6_init 4 = .ok (.aload_n 0, 1) := by decide +kernel
theorem dX6_init_5 : decode cX6_init 5 = .ok (.new 7, 3) := by decide +kernel
theorem dX6_init_8 : decode cX6_init 8 = .ok (.dup, 1) := by decide +kernel
theorem dX6_init_9 : decode cX6_init 9 = .ok (.invokespecial 9, 3) := by decide +kernel
theorem dX6_init_12 : decode cX6_init 12 = .ok (.putfield 10, 3) := by decide +kernel
theorem dX6_init_15 : decode cX6_init 15 = .ok (.aload_n 0, 1) := by decide +kernel
theorem dX6_init_16 : decode cX6_init 16 = .ok (.sipush 256, 3) := by decide +kernel
theorem dX6_init_19 : decode cX6_init 19 = .ok (.newarray .boolean, 2) := by decide +kernel
theorem dX6_init_21 : decode cX6_init 21 = .ok (.putfield 16, 3) := by decide +kernel
theorem dX6_init_24 : decode cX6_init 24 = .ok (.aload_n 0, 1) := by decide +kernel
theorem dX6_init_25 : decode cX6_init 25 = .ok (.new 20, 3) := by decide +kernel
theorem dX6_init_28 : decode cX6_init 28 = .ok (.dup, 1) := by decide +kernel
theorem dX6_init_29 : decode cX6_init 29 = .ok (.invokespecial 22, 3) := by decide +kernel
theorem dX6_init_32 : decode cX6_init 32 = .ok (.putfield 23, 3) := by decide +kernel
theorem dX6_init_35 : decode cX6_init 35 = .ok (.aload_n 0, 1) := by decide +kernel
theorem dX6_init_36 : decode cX6_init 36 = .ok (.bipush 6, 2) := by decide +kernel
theorem dX6_init_38 : decode cX6_init 38 = .ok (.anewarray 27, 3) := by decide +kernel
theorem dX6_init_41 : decode cX6_init 41 = .ok (.putfield 29, 3) := by decide +kernel
theorem dX6_init_44 : decode cX6_init 44 = .ok (.iconst 0, 1) := by decide +kernel
theorem dX6_init_45 : decode cX6_init 45 = .ok (.istore_n 1, 1) := by decide +kernel
theorem dX6_init_46 : decode cX6_init 46 = .ok (.iload_n 1, 1) := by decide +kernel
theorem dX6_init_47 : decode cX6_init 47 = .ok (.bipush 6, 2) := by decide +kernel
theorem dX6_init_49 : decode cX6_init 49 = .ok (.if_icmp .ge 22, 3) := by decide +kernel
theorem dX6_init_52 : decode cX6_init 52 = .ok (.aload_n 0, 1) := by decide +kernel
theorem dX6_init_53 : decode cX6_init 53 = .ok (.getfield 29, 3) := by decide +kernel
theorem dX6_init_56 : decode cX6_init 56 = .ok (.iload_n 1, 1) := by decide +kernel
theorem dX6_init_57 : decode cX6_init 57 = .ok (.new 27, 3) := by decide +kernel
theorem dX6_init_60 : decode cX6_init 60 = .ok (.dup, 1) := by decide +kernel
theorem dX6_init_61 : decode cX6_init 61 = .ok (.invokespecial 33, 3) := by decide +kernel
theorem dX6_init_64 : decode cX6_init 64 = .ok (.aastore, 1) := by decide +kernel
theorem dX6_init_65 : decode cX6_init 65 = .ok (.iinc 1 1, 3) := by decide +kernel
theorem dX6_init_68 : decode cX6_init 68 = .ok (.goto (-22), 3) := by decide +kernel
theorem dX6_init_71 : decode cX6_init 71 = .ok (.aload_n 0, 1) := by decide +kernel
theorem dX6_init_72 : decode cX6_init 72 = .ok (.new 34, 3) := by decide +kernel
theorem dX6_init_75 : decode cX6_init 75 = .ok (.dup, 1) := by decide +kernel
theorem dX6_init_76 : decode cX6_init 76 = .ok (.invokespecial 36, 3) := by decide +kernel
theorem dX6_init_79 : decode cX6_init 79 = .ok (.putfield 37, 3) := by decide +kernel
theorem dX6_init_82 : decode cX6_init 82 = .ok (.aload_n 0, 1) := by decide +kernel
theorem dX6_init_83 : decode cX6_init 83 = .ok (.new 41, 3) := by decide +kernel
theorem dX6_init_86 : decode cX6_init 86 = .ok (.dup, 1) := by decide +kernel
theorem dX6_init_87 : decode cX6_init 87 = .ok (.invokespecial 43, 3) := by decide +kernel
theorem dX6_init_90 : decode cX6_init 90 = .ok (.putfield 44, 3) := by decide +kernel
theorem dX6_init_93 : decode cX6_init 93 = .ok (.aload_n 0, 1) := by decide +kernel
theorem dX6_init_94 : decode cX6_init 94 = .ok (.new 48, 3) := by decide +kernel
theorem dX6_init_97 : decode cX6_init 97 = .ok (.dup, 1) := by decide +kernel
theorem dX6_init_98 : decode cX6_init 98 = .ok (.invokespecial 50, 3) := by decide +kernel
theorem dX6_init_101 : decode cX6_init 101 = .ok (.putfield 51, 3) := by decide +kernel
theorem dX6_init_104 : decode cX6_init 104 = .ok (.aload_n 0, 1) := by decide +kernel
theorem dX6_init_105 : decode cX6_init 105 = .ok (.bipush 13, 2) := by decide +kernel
theorem dX6_init_107 : decode cX6_init 107 = .ok (.putfield 55, 3) := by decide +kernel
theorem dX6_init_110 : decode cX6_init 110 = .ok (.return_, 1) := by decide +kernel
theorem dX6_category_0 : decode cX6_category 0 = .ok (.iload_n 1, 1) := by decide +kernel
theorem dX6_category_1 : decode cX6_category 1 = .ok (.invokestatic 59, 3) := by decide +kernel
theorem dX6_category_4 : decode cX6_category 4 = .ok (.ifCond .eq 13, 3) := by decide +kernel
theorem dX6_category_7 : decode cX6_category 7 = .ok (.iload_n 2, 1) := by decide +kernel
theorem dX6_category_8 : decode cX6_category 8 = .ok (.ifCond .lt 9, 3) := by decide +kernel
theorem dX6_category_11 : decode cX6_category 11 = .ok (.iload_n 2, 1) := by decide +kernel
theorem dX6_category_12 : decode cX6_category 12 = .ok (.bipush 16, 2) := by decide +kernel
theorem dX6_category_14 : decode cX6_category 14 = .ok (.if_icmp .lt 6, 3) := by decide +kernel
theorem dX6_category_17 : decode cX6_category 17 = .ok (.bipush (-2), 2) := by decide +kernel
theorem dX6_category_19 : decode cX6_category 19 = .ok (.ireturn, 1) := by decide +kernel
theorem dX6_category_20 : decode cX6_category 20 = .ok (.iload_n 3, 1) := by decide +kernel
theorem dX6_category_21 : decode cX6_category 21 = .ok (.ifCond .eq 15, 3) := by decide +kernel
theorem dX6_category_24 : decode cX6_category 24 = .ok (.aload_n 0, 1) := by decide +kernel
theorem dX6_category_25 : decode cX6_category 25 = .ok (.getfield 10, 3) := by decide +kernel
theorem dX6_category_28 : decode cX6_category 28 = .ok (.iload_n 1, 1) := by decide +kernel
theorem dX6_category_29 : decode cX6_category 29 = .ok (.iload_n 2, 1) := by decide +kernel
theorem dX6_category_30 : decode cX6_category 30 = .ok (.invokevirtual 63, 3) := by decide +kernel
theorem dX6_category_33 : decode cX6_category 33 = .ok (.goto 12, 3) := by decide +kernel
theorem dX6_category_36 : decode cX6_category 36 = .ok (.aload_n 0, 1) := by decide +kernel
theorem dX6_category_37 : decode cX6_category 37 = .ok (.getfield 10, 3) := by decide +kernel
theorem dX6_category_40 : decode cX6_category 40 = .ok (.iload_n 1, 1) := by decide +kernel
theorem dX6_category_41 : decode cX6_category 41 = .ok (.iload_n 2, 1) := by decide +kernel
theorem dX6_category_42 : decode cX6_category 42 = .ok (.invokevirtual 67, 3) := by decide +kernel
theorem dX6_category_45 : decode cX6_category 45 = .ok (.iconst 1, 1) := by decide +kernel
theorem dX6_category_46 : decode cX6_category 46 = .ok (.ireturn, 1) := by decide +kernel
theorem dX6_group_0 : decode cX6_group 0 = .ok (.iload_n 1, 1) := by decide +kernel
theorem dX6_group_1 : decode cX6_group 1 = .ok (.ifCond .eq 26, 3) := by decide +kernel
theorem dX6_group_4 : decode cX6_group 4 = .ok (.aload_n 0, 1) := by decide +kernel
theorem dX6_group_5 : decode cX6_group 5 = .ok (.getfield 10, 3) := by decide +kernel
theorem dX6_group_8 : decode cX6_group 8 = .ok (.invokevirtual 70, 3) := by decide +kernel
theorem dX6_group_11 : decode cX6_group 11 = .ok (.ifCond .eq 13, 3) := by decide +kernel
theorem dX6_group_14 : decode cX6_group 14 = .ok (.aload_n 0, 1) := by decide +kernel
theorem dX6_group_15 : decode cX6_group 15 = .ok (.getfield 10, 3) := by decide +kernel
theorem dX6_group_18 : decode cX6_group 18 = .ok (.getfield 74, 3) := by decide +kernel
theorem dX6_group_21 : decode cX6_group 21 = .ok (.goto 5, 3) := by decide +kernel
theorem dX6_group_24 : decode cX6_group 24 = .ok (.bipush (-4), 2) := by decide +kernel
theorem dX6_group_26 : decode cX6_group 26 = .ok (.ireturn, 1) := by decide +kernel
theorem dX6_group_27 : decode cX6_group 27 = .ok (.aload_n 0, 1) := by decide +kernel
theorem dX6_group_28 : decode cX6_group 28 = .ok (.getfield 10, 3) := by decide +kernel
theorem dX6_group_31 : decode cX6_group 31 = .ok (.invokevirtual 77, 3) := by decide +kernel
theorem dX6_group_34 : decode cX6_group 34 = .ok (.ifCond .eq 13, 3) := by decide +kernel
theorem dX6_group_37 : decode cX6_group 37 = .ok (.aload_n 0, 1) := by decide +kernel
theorem dX6_group_38 : decode cX6_group 38 = .ok (.getfield 10, 3) := by decide +kernel
theorem dX6_group_41 : decode cX6_group 41 = .ok (.getfield 74, 3) := by decide +kernel
theorem dX6_group_44 : decode cX6_group 44 = .ok (.goto 5, 3) := by decide +kernel
theorem dX6_group_47 : decode cX6_group 47 = .ok (.bipush (-3), 2) := by decide +kernel
theorem dX6_group_49 : decode cX6_group 49 = .ok (.ireturn, 1) := by decide +kernel
theorem dX6_endSign_0 : decode cX6_endSign 0 = .ok (.iload_n 1, 1) := by decide +kernel
theorem dX6_endSign_1 : decode cX6_endSign 1 = .ok (.iconst (-1), 1) := by decide +kernel
theorem dX6_endSign_2 : decode cX6_endSign 2 = .ok (.if_icmp .eq 13, 3) := by decide +kernel
theorem dX6_endSign_5 : decode cX6_endSign 5 = .ok (.iload_n 1, 1) := by decide +kernel
theorem dX6_endSign_6 : decode cX6_endSign 6 = .ok (.invokestatic 59, 3) := by decide +kernel
theorem dX6_endSign_9 : decode cX6_endSign 9 = .ok (.ifCond .ne 6, 3) := by decide +kernel
theorem dX6_endSign_12 : decode cX6_endSign 12 = .ok (.bipush (-2), 2) := by decide +kernel
theorem dX6_endSign_14 : decode cX6_endSign 14 = .ok (.ireturn, 1) := by decide +kernel
theorem dX6_endSign_15 : decode cX6_endSign 15 = .ok (.aload_n 0, 1) := by decide +kernel
theorem dX6_endSign_16 : decode cX6_endSign 16 = .ok (.iload_n 1, 1) := by decide +kernel
theorem dX6_endSign_17 : decode cX6_endSign 17 = .ok (.putfield 55, 3) := by decide +kernel
theorem dX6_endSign_20 : decode cX6_endSign 20 = .ok (.iconst 1, 1) := by decide +kernel
theorem dX6_endSign_21 : decode cX6_endSign 21 = .ok (.ireturn, 1) := by decide +kernel
theorem dX6_meaning_0 : decode cX6_meaning 0 = .ok (.iload_n 1, 1) := by decide +kernel
theorem dX6_meaning_1 : decode cX6_meaning 1 = .ok (.invokestatic 59, 3) := by decide +kernel
theorem dX6_meaning_4 : decode cX6_meaning 4 = .ok (.ifCond .ne 6, 3) := by decide +kernel
theorem dX6_meaning_7 : decode cX6_meaning 7 = .ok (.bipush (-2), 2) := by decide +kernel
theorem dX6_meaning_9 : decode cX6_meaning 9 = .ok (.ireturn, 1) := by decide +kernel
theorem dX6_meaning_10 : decode cX6_meaning 10 = .ok (.aload_n 0, 1) := by decide +kernel
theorem dX6_meaning_11 : decode cX6_meaning 11 = .ok (.getfield 16, 3) := by decide +kernel
theorem dX6_meaning_14 : decode cX6_meaning 14 = .ok (.iload_n 1, 1) := by decide +kernel
theorem dX6_meaning_15 : decode cX6_meaning 15 = .ok (.iload_n 2, 1) := by decide +kernel
theorem dX6_meaning_16 : decode cX6_meaning 16 = .ok (.bastore, 1) := by decide +kernel
theorem dX6_meaning_17 : decode cX6_meaning 17 = .ok (.iconst 1, 1) := by decide +kernel
theorem dX6_meaning_18 : decode cX6_meaning 18 = .ok (.ireturn, 1) := by decide +kernel
theorem dX6_file_0 : decode cX6_file 0 = .ok (.aload_n 0, 1) := by decide +kernel
theorem dX6_file_1 : decode cX6_file 1 = .ok (.getfield 23, 3) := by decide +kernel
theorem dX6_file_4 : decode cX6_file 4 = .ok (.invokevirtual 80, 3) := by decide +kernel
theorem dX6_file_7 : decode cX6_file 7 = .ok (.ireturn, 1) := by decide +kernel
theorem dX6_line_0 : decode cX6_line 0 = .ok (.aload_n 0, 1) := by decide +kernel
theorem dX6_line_1 : decode cX6_line 1 = .ok (.getfield 23, 3) := by decide +kernel
theorem dX6_line_4 : decode cX6_line 4 = .ok (.iload_n 1, 1) := by decide +kernel
theorem dX6_line_5 : decode cX6_line 5 = .ok (.invokevirtual 84, 3) := by decide +kernel
theorem dX6_line_8 : decode cX6_line 8 = .ok (.ifCond .eq 14, 3) := by decide +kernel
theorem dX6_line_11 : decode cX6_line 11 = .ok (.aload_n 0, 1) := by decide +kernel
theorem dX6_line_12 : decode cX6_line 12 = .ok (.getfield 23, 3) := by decide +kernel
theorem dX6_line_15 : decode cX6_line 15 = .ok (.iload_n 1, 1) := by decide +kernel
theorem dX6_line_16 : decode cX6_line 16 = .ok (.invokevirtual 87, 3) := by decide +kernel
theorem dX6_line_19 : decode cX6_line 19 = .ok (.goto 4, 3) := by decide +kernel
theorem dX6_line_22 : decode cX6_line 22 = .ok (.iconst (-1), 1) := by decide +kernel
theorem dX6_line_23 : decode cX6_line 23 = .ok (.ireturn, 1) := by decide +kernel
theorem dX6_add_0 : decode cX6_add 0 = .ok (.aload_n 0, 1) := by decide +kernel
theorem dX6_add_1 : decode cX6_add 1 = .ok (.getfield 23, 3) := by decide +kernel
theorem dX6_add_4 : decode cX6_add 4 = .ok (.iload_n 1, 1) := by decide +kernel
theorem dX6_add_5 : decode cX6_add 5 = .ok (.invokevirtual 84, 3) := by decide +kernel
theorem dX6_add_8 : decode cX6_add 8 = .ok (.ifCond .ne 5, 3) := by decide +kernel
theorem dX6_add_11 : decode cX6_add 11 = .ok (.iconst (-1), 1) := by decide +kernel
theorem dX6_add_12 : decode cX6_add 12 = .ok (.ireturn, 1) := by decide +kernel
theorem dX6_add_13 : decode cX6_add 13 = .ok (.iload 4, 2) := by decide +kernel
theorem dX6_add_15 : decode cX6_add 15 = .ok (.iconst 1, 1) := by decide +kernel
theorem dX6_add_16 : decode cX6_add 16 = .ok (.if_icmp .lt 10, 3) := by decide +kernel
theorem dX6_add_19 : decode cX6_add 19 = .ok (.iload 4, 2) := by decide +kernel
theorem dX6_add_21 : decode cX6_add 21 = .ok (.bipush 8, 2) := by decide +kernel
theorem dX6_add_23 : decode cX6_add 23 = .ok (.if_icmp .le 6, 3) := by decide +kernel
theorem dX6_add_26 : decode cX6_add 26 = .ok (.bipush (-2), 2) := by decide +kernel
theorem dX6_add_28 : decode cX6_add 28 = .ok (.ireturn, 1) := by decide +kernel
theorem dX6_add_29 : decode cX6_add 29 = .ok (.aload_n 0, 1) := by decide +kernel
theorem dX6_add_30 : decode cX6_add 30 = .ok (.getfield 23, 3) := by decide +kernel
theorem dX6_add_33 : decode cX6_add 33 = .ok (.iload_n 1, 1) := by decide +kernel
theorem dX6_add_34 : decode cX6_add 34 = .ok (.lload_n 2, 1) := by decide +kernel
theorem dX6_add_35 : decode cX6_add 35 = .ok (.iload 4, 2) := by decide +kernel
theorem dX6_add_37 : decode cX6_add 37 = .ok (.invokevirtual 91, 3) := by decide +kernel
theorem dX6_add_40 : decode cX6_add 40 = .ok (.ireturn, 1) := by decide +kernel
theorem dX6_open_0 : decode cX6_open 0 = .ok (.aload_n 0, 1) := by decide +kernel
theorem dX6_open_1 : decode cX6_open 1 = .ok (.getfield 23, 3) := by decide +kernel
theorem dX6_open_4 : decode cX6_open 4 = .ok (.iload_n 1, 1) := by decide +kernel
theorem dX6_open_5 : decode cX6_open 5 = .ok (.invokevirtual 84, 3) := by decide +kernel
theorem dX6_open_8 : decode cX6_open 8 = .ok (.ifCond .ne 5, 3) := by decide +kernel
theorem dX6_open_11 : decode cX6_open 11 = .ok (.iconst (-1), 1) := by decide +kernel
theorem dX6_open_12 : decode cX6_open 12 = .ok (.ireturn, 1) := by decide +kernel
theorem dX6_open_13 : decode cX6_open 13 = .ok (.aload_n 0, 1) := by decide +kernel
theorem dX6_open_14 : decode cX6_open 14 = .ok (.getfield 95, 3) := by decide +kernel
theorem dX6_open_17 : decode cX6_open 17 = .ok (.ifCond .lt 15, 3) := by decide +kernel
theorem dX6_open_20 : decode cX6_open 20 = .ok (.aload_n 0, 1) := by decide +kernel
theorem dX6_open_21 : decode cX6_open 21 = .ok (.getfield 95, 3) := by decide +kernel
theorem dX6_open_24 : decode cX6_open 24 = .ok (.aload_n 0, 1) := by decide +kernel
theorem dX6_open_25 : decode cX6_open 25 = .ok (.getfield 29, 3) := by decide +kernel
theorem dX6_open_28 : decode cX6_open 28 = .ok (.arraylength, 1) := by decide +kernel
theorem dX6_open_29 : decode cX6_open 29 = .ok (.if_icmp .lt 6, 3) := by decide +kernel
theorem dX6_open_32 : decode cX6_open 32 = .ok (.bipush (-4), 2) := by decide +kernel
theorem dX6_open_34 : decode cX6_open 34 = .ok (.ireturn, 1) := by decide +kernel
theorem dX6_open_35 : decode cX6_open 35 = .ok (.aload_n 0, 1) := by decide +kernel
theorem dX6_open_36 : decode cX6_open 36 = .ok (.getfield 29, 3) := by decide +kernel
theorem dX6_open_39 : decode cX6_open 39 = .ok (.aload_n 0, 1) := by decide +kernel
theorem dX6_open_40 : decode cX6_open 40 = .ok (.getfield 95, 3) := by decide +kernel
theorem dX6_open_43 : decode cX6_open 43 = .ok (.aaload, 1) := by decide +kernel
theorem dX6_open_44 : decode cX6_open 44 = .ok (.iload_n 1, 1) := by decide +kernel
theorem dX6_open_45 : decode cX6_open 45 = .ok (.invokevirtual 98, 3) := by decide +kernel
theorem dX6_open_48 : decode cX6_open 48 = .ok (.aload_n 0, 1) := by decide +kernel
theorem dX6_open_49 : decode cX6_open 49 = .ok (.dup, 1) := by decide +kernel
theorem dX6_open_50 : decode cX6_open 50 = .ok (.getfield 95, 3) := by decide +kernel
theorem dX6_open_53 : decode cX6_open 53 = .ok (.iconst 1, 1) := by decide +kernel
theorem dX6_open_54 : decode cX6_open 54 = .ok (.iadd, 1) := by decide +kernel
theorem dX6_open_55 : decode cX6_open 55 = .ok (.putfield 95, 3) := by decide +kernel
theorem dX6_open_58 : decode cX6_open 58 = .ok (.aload_n 0, 1) := by decide +kernel
theorem dX6_open_59 : decode cX6_open 59 = .ok (.getfield 95, 3) := by decide +kernel
theorem dX6_open_62 : decode cX6_open 62 = .ok (.ireturn, 1) := by decide +kernel
theorem dX6_close_0 : decode cX6_close 0 = .ok (.aload_n 0, 1) := by decide +kernel
theorem dX6_close_1 : decode cX6_close 1 = .ok (.invokevirtual 102, 3) := by decide +kernel
theorem dX6_close_4 : decode cX6_close 4 = .ok (.astore_n 1, 1) := by decide +kernel
theorem dX6_close_5 : decode cX6_close 5 = .ok (.aload_n 1, 1) := by decide +kernel
theorem dX6_close_6 : decode cX6_close 6 = .ok (.ifnonnull 6, 3) := by decide +kernel
theorem dX6_close_9 : decode cX6_close 9 = .ok (.bipush (-3), 2) := by decide +kernel
theorem dX6_close_11 : decode cX6_close 11 = .ok (.ireturn, 1) := by decide +kernel
theorem dX6_close_12 : decode cX6_close 12 = .ok (.aload_n 1, 1) := by decide +kernel
theorem dX6_close_13 : decode cX6_close 13 = .ok (.iconst 1, 1) := by decide +kernel
theorem dX6_close_14 : decode cX6_close 14 = .ok (.putfield 106, 3) := by decide +kernel
theorem dX6_close_17 : decode cX6_close 17 = .ok (.iconst 1, 1) := by decide +kernel
theorem dX6_close_18 : decode cX6_close 18 = .ok (.ireturn, 1) := by decide +kernel
theorem dX6_next_0 : decode cX6_next 0 = .ok (.aload_n 0, 1) := by decide +kernel
theorem dX6_next_1 : decode cX6_next 1 = .ok (.invokevirtual 110, 3) := by decide +kernel
theorem dX6_next_4 : decode cX6_next 4 = .ok (.istore_n 1, 1) := by decide +kernel
theorem dX6_next_5 : decode cX6_next 5 = .ok (.iload_n 1, 1) := by decide +kernel
theorem dX6_next_6 : decode cX6_next 6 = .ok (.ifCond .ge 5, 3) := by decide +kernel
theorem dX6_next_9 : decode cX6_next 9 = .ok (.iload_n 1, 1) := by decide +kernel
theorem dX6_next_10 : decode cX6_next 10 = .ok (.ireturn, 1) := by decide +kernel
theorem dX6_next_11 : decode cX6_next 11 = .ok (.iconst 0, 1) := by decide +kernel
theorem dX6_next_12 : decode cX6_next 12 = .ok (.istore_n 2, 1) := by decide +kernel
theorem dX6_next_13 : decode cX6_next 13 = .ok (.iload_n 2, 1) := by decide +kernel
theorem dX6_next_14 : decode cX6_next 14 = .ok (.ldc 113, 2) := by decide +kernel
theorem dX6_next_16 : decode cX6_next 16 = .ok (.if_icmp .ge 52, 3) := by decide +kernel
theorem dX6_next_19 : decode cX6_next 19 = .ok (.aload_n 0, 1) := by decide +kernel
theorem dX6_next_20 : decode cX6_next 20 = .ok (.invokevirtual 114, 3) := by decide +kernel
theorem dX6_next_23 : decode cX6_next 23 = .ok (.astore_n 3, 1) := by decide +kernel
theorem dX6_next_24 : decode cX6_next 24 = .ok (.aload_n 3, 1) := by decide +kernel
theorem dX6_next_25 : decode cX6_next 25 = .ok (.ifnonnull 6, 3) := by decide +kernel
theorem dX6_next_28 : decode cX6_next 28 = .ok (.bipush (-3), 2) := by decide +kernel
theorem dX6_next_30 : decode cX6_next 30 = .ok (.ireturn, 1) := by decide +kernel
theorem dX6_next_31 : decode cX6_next 31 = .ok (.aload_n 3, 1) := by decide +kernel
theorem dX6_next_32 : decode cX6_next 32 = .ok (.invokevirtual 117, 3) := by decide +kernel
theorem dX6_next_35 : decode cX6_next 35 = .ok (.ifCond .le 11, 3) := by decide +kernel
theorem dX6_next_38 : decode cX6_next 38 = .ok (.aload_n 0, 1) := by decide +kernel
theorem dX6_next_39 : decode cX6_next 39 = .ok (.aload_n 3, 1) := by decide +kernel
theorem dX6_next_40 : decode cX6_next 40 = .ok (.invokevirtual 120, 3) := by decide +kernel
theorem dX6_next_43 : decode cX6_next 43 = .ok (.goto 7, 3) := by decide +kernel
theorem dX6_next_46 : decode cX6_next 46 = .ok (.aload_n 3, 1) := by decide +kernel
theorem dX6_next_47 : decode cX6_next 47 = .ok (.invokestatic 124, 3) := by decide +kernel
theorem dX6_next_50 : decode cX6_next 50 = .ok (.istore 4, 2) := by decide +kernel
theorem dX6_next_52 : decode cX6_next 52 = .ok (.iload 4, 2) := by decide +kernel
theorem dX6_next_54 : decode cX6_next 54 = .ok (.bipush (-6), 2) := by decide +kernel
theorem dX6_next_56 : decode cX6_next 56 = .ok (.if_icmp .eq 6, 3) := by decide +kernel
theorem dX6_next_59 : decode cX6_next 59 = .ok (.iload 4, 2) := by decide +kernel
theorem dX6_next_61 : decode cX6_next 61 = .ok (.ireturn, 1) := by decide +kernel
theorem dX6_next_62 : decode cX6_next 62 = .ok (.iinc 2 1, 3) := by decide +kernel
theorem dX6_next_65 : decode cX6_next 65 = .ok (.goto (-52), 3) := by decide +kernel
theorem dX6_next_68 : decode cX6_next 68 = .ok (.bipush (-3), 2) := by decide +kernel
theorem dX6_next_70 : decode cX6_next 70 = .ok (.ireturn, 1) := by decide +kernel
theorem dX6_raw_0 : decode cX6_raw 0 = .ok (.aload_n 0, 1) := by decide +kernel
theorem dX6_raw_1 : decode cX6_raw 1 = .ok (.invokevirtual 110, 3) := by decide +kernel
theorem dX6_raw_4 : decode cX6_raw 4 = .ok (.istore_n 1, 1) := by decide +kernel
theorem dX6_raw_5 : decode cX6_raw 5 = .ok (.iload_n 1, 1) := by decide +kernel
theorem dX6_raw_6 : decode cX6_raw 6 = .ok (.ifCond .ge 5, 3) := by decide +kernel
theorem dX6_raw_9 : decode cX6_raw 9 = .ok (.iload_n 1, 1) := by decide +kernel
theorem dX6_raw_10 : decode cX6_raw 10 = .ok (.ireturn, 1) := by decide +kernel
theorem dX6_raw_11 : decode cX6_raw 11 = .ok (.aload_n 0, 1) := by decide +kernel
theorem dX6_raw_12 : decode cX6_raw 12 = .ok (.invokevirtual 114, 3) := by decide +kernel
theorem dX6_raw_15 : decode cX6_raw 15 = .ok (.astore_n 2, 1) := by decide +kernel
theorem dX6_raw_16 : decode cX6_raw 16 = .ok (.aload_n 2, 1) := by decide +kernel
theorem dX6_raw_17 : decode cX6_raw 17 = .ok (.ifnonnull 6, 3) := by decide +kernel
theorem dX6_raw_20 : decode cX6_raw 20 = .ok (.bipush (-3), 2) := by decide +kernel
theorem dX6_raw_22 : decode cX6_raw 22 = .ok (.ireturn, 1) := by decide +kernel
theorem dX6_raw_23 : decode cX6_raw 23 = .ok (.aload_n 2, 1) := by decide +kernel
theorem dX6_raw_24 : decode cX6_raw 24 = .ok (.getfield 127, 3) := by decide +kernel
theorem dX6_raw_27 : decode cX6_raw 27 = .ok (.istore_n 3, 1) := by decide +kernel
theorem dX6_raw_28 : decode cX6_raw 28 = .ok (.aload_n 2, 1) := by decide +kernel
theorem dX6_raw_29 : decode cX6_raw 29 = .ok (.iload_n 3, 1) := by decide +kernel
theorem dX6_raw_30 : decode cX6_raw 30 = .ok (.invokevirtual 130, 3) := by decide +kernel
theorem dX6_raw_33 : decode cX6_raw 33 = .ok (.istore 4, 2) := by decide +kernel
theorem dX6_raw_35 : decode cX6_raw 35 = .ok (.iload 4, 2) := by decide +kernel
theorem dX6_raw_37 : decode cX6_raw 37 = .ok (.ifCond .ge 11, 3) := by decide +kernel
theorem dX6_raw_40 : decode cX6_raw 40 = .ok (.aload_n 2, 1) := by decide +kernel
theorem dX6_raw_41 : decode cX6_raw 41 = .ok (.iconst 0, 1) := by decide +kernel
theorem dX6_raw_42 : decode cX6_raw 42 = .ok (.putfield 133, 3) := by decide +kernel
theorem dX6_raw_45 : decode cX6_raw 45 = .ok (.bipush (-5), 2) := by decide +kernel
theorem dX6_raw_47 : decode cX6_raw 47 = .ok (.ireturn, 1) := by decide +kernel
theorem dX6_raw_48 : decode cX6_raw 48 = .ok (.aload_n 2, 1) := by decide +kernel
theorem dX6_raw_49 : decode cX6_raw 49 = .ok (.iload_n 3, 1) := by decide +kernel
theorem dX6_raw_50 : decode cX6_raw 50 = .ok (.iconst 1, 1) := by decide +kernel
theorem dX6_raw_51 : decode cX6_raw 51 = .ok (.iadd, 1) := by decide +kernel
theorem dX6_raw_52 : decode cX6_raw 52 = .ok (.putfield 127, 3) := by decide +kernel
theorem dX6_raw_55 : decode cX6_raw 55 = .ok (.aload_n 0, 1) := by decide +kernel
theorem dX6_raw_56 : decode cX6_raw 56 = .ok (.getfield 44, 3) := by decide +kernel
theorem dX6_raw_59 : decode cX6_raw 59 = .ok (.iconst 0, 1) := by decide +kernel
theorem dX6_raw_60 : decode cX6_raw 60 = .ok (.iload 4, 2) := by decide +kernel
theorem dX6_raw_62 : decode cX6_raw 62 = .ok (.bipush 12, 2) := by decide +kernel
theorem dX6_raw_64 : decode cX6_raw 64 = .ok (.aload_n 2, 1) := by decide +kernel
theorem dX6_raw_65 : decode cX6_raw 65 = .ok (.iload_n 3, 1) := by decide +kernel
theorem dX6_raw_66 : decode cX6_raw 66 = .ok (.invokevirtual 136, 3) := by decide +kernel
theorem dX6_raw_69 : decode cX6_raw 69 = .ok (.ireturn, 1) := by decide +kernel
theorem dX6_token_0 : decode cX6_token 0 = .ok (.aload_n 0, 1) := by decide +kernel
theorem dX6_token_1 : decode cX6_token 1 = .ok (.getfield 44, 3) := by decide +kernel
theorem dX6_token_4 : decode cX6_token 4 = .ok (.iload_n 1, 1) := by decide +kernel
theorem dX6_token_5 : decode cX6_token 5 = .ok (.invokevirtual 140, 3) := by decide +kernel
theorem dX6_token_8 : decode cX6_token 8 = .ok (.ifCond .eq 13, 3) := by decide +kernel
theorem dX6_token_11 : decode cX6_token 11 = .ok (.iload_n 2, 1) := by decide +kernel
theorem dX6_token_12 : decode cX6_token 12 = .ok (.ifCond .lt 9, 3) := by decide +kernel
theorem dX6_token_15 : decode cX6_token 15 = .ok (.iload_n 2, 1) := by decide +kernel
theorem dX6_token_16 : decode cX6_token 16 = .ok (.bipush 6, 2) := by decide +kernel
theorem dX6_token_18 : decode cX6_token 18 = .ok (.if_icmp .lt 13, 3) := by decide +kernel
theorem dX6_token_21 : decode cX6_token 21 = .ok (.new 143, 3) := by decide +kernel
theorem dX6_token_24 : decode cX6_token 24 = .ok (.dup, 1) := by decide +kernel
theorem dX6_token_25 : decode cX6_token 25 = .ok (.ldc 145, 2) := by decide +kernel
theorem dX6_token_27 : decode cX6_token 27 = .ok (.invokespecial 147, 3) := by decide +kernel
theorem dX6_token_30 : decode cX6_token 30 = .ok (.athrow, 1) := by decide +kernel
theorem dX6_token_31 : decode cX6_token 31 = .ok (.aload_n 0, 1) := by decide +kernel
theorem dX6_token_32 : decode cX6_token 32 = .ok (.getfield 44, 3) := by decide +kernel
theorem dX6_token_35 : decode cX6_token 35 = .ok (.iload_n 1, 1) := by decide +kernel
theorem dX6_token_36 : decode cX6_token 36 = .ok (.iload_n 2, 1) := by decide +kernel
theorem dX6_token_37 : decode cX6_token 37 = .ok (.invokevirtual 150, 3) := by decide +kernel
theorem dX6_token_40 : decode cX6_token 40 = .ok (.ireturn, 1) := by decide +kernel
theorem dX6_name_0 : decode cX6_name 0 = .ok (.aload_n 0, 1) := by decide +kernel
theorem dX6_name_1 : decode cX6_name 1 = .ok (.getfield 37, 3) := by decide +kernel
theorem dX6_name_4 : decode cX6_name 4 = .ok (.iload_n 1, 1) := by decide +kernel
theorem dX6_name_5 : decode cX6_name 5 = .ok (.iload_n 2, 1) := by decide +kernel
theorem dX6_name_6 : decode cX6_name 6 = .ok (.invokevirtual 154, 3) := by decide +kernel
theorem dX6_name_9 : decode cX6_name 9 = .ok (.ireturn, 1) := by decide +kernel
theorem dX6_told_0 : decode cX6_told 0 = .ok (.aload_n 0, 1) := by decide +kernel
theorem dX6_told_1 : decode cX6_told 1 = .ok (.getfield 51, 3) := by decide +kernel
theorem dX6_told_4 : decode cX6_told 4 = .ok (.iload_n 1, 1) := by decide +kernel
theorem dX6_told_5 : decode cX6_told 5 = .ok (.iload_n 2, 1) := by decide +kernel
theorem dX6_told_6 : decode cX6_told 6 = .ok (.invokevirtual 157, 3) := by decide +kernel
theorem dX6_told_9 : decode cX6_told 9 = .ok (.ireturn, 1) := by decide +kernel
theorem dX6_categoryOf_0 : decode cX6_categoryOf 0 = .ok (.iload_n 1, 1) := by decide +kernel
theorem dX6_categoryOf_1 : decode cX6_categoryOf 1 = .ok (.invokestatic 59, 3) := by decide +kernel
theorem dX6_categoryOf_4 : decode cX6_categoryOf 4 = .ok (.ifCond .eq 14, 3) := by decide +kernel
theorem dX6_categoryOf_7 : decode cX6_categoryOf 7 = .ok (.aload_n 0, 1) := by decide +kernel
theorem dX6_categoryOf_8 : decode cX6_categoryOf 8 = .ok (.getfield 10, 3) := by decide +kernel
theorem dX6_categoryOf_11 : decode cX6_categoryOf 11 = .ok (.iload_n 1, 1) := by decide +kernel
theorem dX6_categoryOf_12 : decode cX6_categoryOf 12 = .ok (.invokevirtual 158, 3) := by decide +kernel
theorem dX6_categoryOf_15 : decode cX6_categoryOf 15 = .ok (.goto 5, 3) := by decide +kernel
theorem dX6_categoryOf_18 : decode cX6_categoryOf 18 = .ok (.bipush (-2), 2) := by decide +kernel
theorem dX6_categoryOf_20 : decode cX6_categoryOf 20 = .ok (.ireturn, 1) := by decide +kernel
theorem dX6_state_0 : decode cX6_state 0 = .ok (.aload_n 0, 1) := by decide +kernel
theorem dX6_state_1 : decode cX6_state 1 = .ok (.invokevirtual 102, 3) := by decide +kernel
theorem dX6_state_4 : decode cX6_state 4 = .ok (.astore_n 1, 1) := by decide +kernel
theorem dX6_state_5 : decode cX6_state 5 = .ok (.aload_n 1, 1) := by decide +kernel
theorem dX6_state_6 : decode cX6_state 6 = .ok (.ifnull 17, 3) := by decide +kernel
theorem dX6_state_9 : decode cX6_state 9 = .ok (.aload_n 1, 1) := by decide +kernel
theorem dX6_state_10 : decode cX6_state 10 = .ok (.getfield 133, 3) := by decide +kernel
theorem dX6_state_13 : decode cX6_state 13 = .ok (.ifCond .eq 10, 3) := by decide +kernel
theorem dX6_state_16 : decode cX6_state 16 = .ok (.aload_n 1, 1) := by decide +kernel
theorem dX6_state_17 : decode cX6_state 17 = .ok (.getfield 161, 3) := by decide +kernel
theorem dX6_state_20 : decode cX6_state 20 = .ok (.goto 4, 3) := by decide +kernel
theorem dX6_state_23 : decode cX6_state 23 = .ok (.iconst (-1), 1) := by decide +kernel
theorem dX6_state_24 : decode cX6_state 24 = .ok (.ireturn, 1) := by decide +kernel
theorem dX6_count_0 : decode cX6_count 0 = .ok (.iload_n 1, 1) := by decide +kernel
theorem dX6_count_1 : decode cX6_count 1 = .ok (.tableswitch 102 0 7 #[47, 55, 63, 71, 76, 84, 92, 97], 47) := by decide +kernel
theorem dX6_count_48 : decode cX6_count 48 = .ok (.aload_n 0, 1) := by decide +kernel
theorem dX6_count_49 : decode cX6_count 49 = .ok (.getfield 44, 3) := by decide +kernel
theorem dX6_count_52 : decode cX6_count 52 = .ok (.getfield 164, 3) := by decide +kernel
theorem dX6_count_55 : decode cX6_count 55 = .ok (.ireturn, 1) := by decide +kernel
theorem dX6_count_56 : decode cX6_count 56 = .ok (.aload_n 0, 1) := by decide +kernel
theorem dX6_count_57 : decode cX6_count 57 = .ok (.getfield 37, 3) := by decide +kernel
theorem dX6_count_60 : decode cX6_count 60 = .ok (.getfield 167, 3) := by decide +kernel
theorem dX6_count_63 : decode cX6_count 63 = .ok (.ireturn, 1) := by decide +kernel
theorem dX6_count_64 : decode cX6_count 64 = .ok (.aload_n 0, 1) := by decide +kernel
theorem dX6_count_65 : decode cX6_count 65 = .ok (.getfield 23, 3) := by decide +kernel
theorem dX6_count_68 : decode cX6_count 68 = .ok (.getfield 168, 3) := by decide +kernel
theorem dX6_count_71 : decode cX6_count 71 = .ok (.ireturn, 1) := by decide +kernel
theorem dX6_count_72 : decode cX6_count 72 = .ok (.aload_n 0, 1) := by decide +kernel
theorem dX6_count_73 : decode cX6_count 73 = .ok (.getfield 95, 3) := by decide +kernel
theorem dX6_count_76 : decode cX6_count 76 = .ok (.ireturn, 1) := by decide +kernel
theorem dX6_count_77 : decode cX6_count 77 = .ok (.aload_n 0, 1) := by decide +kernel
theorem dX6_count_78 : decode cX6_count 78 = .ok (.getfield 10, 3) := by decide +kernel
theorem dX6_count_81 : decode cX6_count 81 = .ok (.getfield 74, 3) := by decide +kernel
theorem dX6_count_84 : decode cX6_count 84 = .ok (.ireturn, 1) := by decide +kernel
theorem dX6_count_85 : decode cX6_count 85 = .ok (.aload_n 0, 1) := by decide +kernel
theorem dX6_count_86 : decode cX6_count 86 = .ok (.getfield 51, 3) := by decide +kernel
theorem dX6_count_89 : decode cX6_count 89 = .ok (.getfield 171, 3) := by decide +kernel
theorem dX6_count_92 : decode cX6_count 92 = .ok (.ireturn, 1) := by decide +kernel
theorem dX6_count_93 : decode cX6_count 93 = .ok (.aload_n 0, 1) := by decide +kernel
theorem dX6_count_94 : decode cX6_count 94 = .ok (.invokevirtual 172, 3) := by decide +kernel
theorem dX6_count_97 : decode cX6_count 97 = .ok (.ireturn, 1) := by decide +kernel
theorem dX6_count_98 : decode cX6_count 98 = .ok (.aload_n 0, 1) := by decide +kernel
theorem dX6_count_99 : decode cX6_count 99 = .ok (.getfield 175, 3) := by decide +kernel
theorem dX6_count_102 : decode cX6_count 102 = .ok (.ireturn, 1) := by decide +kernel
theorem dX6_count_103 : decode cX6_count 103 = .ok (.bipush (-2), 2) := by decide +kernel
theorem dX6_count_105 : decode cX6_count 105 = .ok (.ireturn, 1) := by decide +kernel
theorem dX6_check_0 : decode cX6_check 0 = .ok (.aload_n 0, 1) := by decide +kernel
theorem dX6_check_1 : decode cX6_check 1 = .ok (.getfield 37, 3) := by decide +kernel
theorem dX6_check_4 : decode cX6_check 4 = .ok (.invokevirtual 178, 3) := by decide +kernel
theorem dX6_check_7 : decode cX6_check 7 = .ok (.ifCond .eq 14, 3) := by decide +kernel
theorem dX6_check_10 : decode cX6_check 10 = .ok (.aload_n 0, 1) := by decide +kernel
theorem dX6_check_11 : decode cX6_check 11 = .ok (.invokevirtual 181, 3) := by decide +kernel
theorem dX6_check_14 : decode cX6_check 14 = .ok (.ifCond .eq 7, 3) := by decide +kernel
theorem dX6_check_17 : decode cX6_check 17 = .ok (.iconst 1, 1) := by decide +kernel
theorem dX6_check_18 : decode cX6_check 18 = .ok (.goto 4, 3) := by decide +kernel
theorem dX6_check_21 : decode cX6_check 21 = .ok (.iconst 0, 1) := by decide +kernel
theorem dX6_check_22 : decode cX6_check 22 = .ok (.ireturn, 1) := by decide +kernel
theorem dX6_isSign_0 : decode cX6_isSign 0 = .ok (.iload_n 0, 1) := by decide +kernel
theorem dX6_isSign_1 : decode cX6_isSign 1 = .ok (.ifCond .lt 14, 3) := by decide +kernel
theorem dX6_isSign_4 : decode cX6_isSign 4 = .ok (.iload_n 0, 1) := by decide +kernel
theorem dX6_isSign_5 : decode cX6_isSign 5 = .ok (.sipush 256, 3) := by decide +kernel
theorem dX6_isSign_8 : decode cX6_isSign 8 = .ok (.if_icmp .ge 7, 3) := by decide +kernel
theorem dX6_isSign_11 : decode cX6_isSign 11 = .ok (.iconst 1, 1) := by decide +kernel
theorem dX6_isSign_12 : decode cX6_isSign 12 = .ok (.goto 4, 3) := by decide +kernel
theorem dX6_isSign_15 : decode cX6_isSign 15 = .ok (.iconst 0, 1) := by decide +kernel
theorem dX6_isSign_16 : decode cX6_isSign 16 = .ok (.ireturn, 1) := by decide +kernel
theorem dX6_topLevel_0 : decode cX6_topLevel 0 = .ok (.aload_n 0, 1) := by decide +kernel
theorem dX6_topLevel_1 : decode cX6_topLevel 1 = .ok (.getfield 95, 3) := by decide +kernel
theorem dX6_topLevel_4 : decode cX6_topLevel 4 = .ok (.ifCond .le 29, 3) := by decide +kernel
theorem dX6_topLevel_7 : decode cX6_topLevel 7 = .ok (.aload_n 0, 1) := by decide +kernel
theorem dX6_topLevel_8 : decode cX6_topLevel 8 = .ok (.getfield 95, 3) := by decide +kernel
theorem dX6_topLevel_11 : decode cX6_topLevel 11 = .ok (.aload_n 0, 1) := by decide +kernel
theorem dX6_topLevel_12 : decode cX6_topLevel 12 = .ok (.getfield 29, 3) := by decide +kernel
theorem dX6_topLevel_15 : decode cX6_topLevel 15 = .ok (.arraylength, 1) := by decide +kernel
theorem dX6_topLevel_16 : decode cX6_topLevel 16 = .ok (.if_icmp .gt 17, 3) := by decide +kernel
theorem dX6_topLevel_19 : decode cX6_topLevel 19 = .ok (.aload_n 0, 1) := by decide +kernel
theorem dX6_topLevel_20 : decode cX6_topLevel 20 = .ok (.getfield 29, 3) := by decide +kernel
theorem dX6_topLevel_23 : decode cX6_topLevel 23 = .ok (.aload_n 0, 1) := by decide +kernel
theorem dX6_topLevel_24 : decode cX6_topLevel 24 = .ok (.getfield 95, 3) := by decide +kernel
theorem dX6_topLevel_27 : decode cX6_topLevel 27 = .ok (.iconst 1, 1) := by decide +kernel
theorem dX6_topLevel_28 : decode cX6_topLevel 28 = .ok (.isub, 1) := by decide +kernel
theorem dX6_topLevel_29 : decode cX6_topLevel 29 = .ok (.aaload, 1) := by decide +kernel
theorem dX6_topLevel_30 : decode cX6_topLevel 30 = .ok (.goto 4, 3) := by decide +kernel
theorem dX6_topLevel_33 : decode cX6_topLevel 33 = .ok (.aconst_null, 1) := by decide +kernel
theorem dX6_topLevel_34 : decode cX6_topLevel 34 = .ok (.areturn, 1) := by decide +kernel
theorem dX6_signsLeft_0 : decode cX6_signsLeft 0 = .ok (.aload_n 0, 1) := by decide +kernel
theorem dX6_signsLeft_1 : decode cX6_signsLeft 1 = .ok (.invokevirtual 102, 3) := by decide +kernel
theorem dX6_signsLeft_4 : decode cX6_signsLeft 4 = .ok (.astore_n 1, 1) := by decide +kernel
theorem dX6_signsLeft_5 : decode cX6_signsLeft 5 = .ok (.aload_n 1, 1) := by decide +kernel
theorem dX6_signsLeft_6 : decode cX6_signsLeft 6 = .ok (.ifnull 17, 3) := by decide +kernel
theorem dX6_signsLeft_9 : decode cX6_signsLeft 9 = .ok (.aload_n 1, 1) := by decide +kernel
theorem dX6_signsLeft_10 : decode cX6_signsLeft 10 = .ok (.getfield 133, 3) := by decide +kernel
theorem dX6_signsLeft_13 : decode cX6_signsLeft 13 = .ok (.ifCond .eq 10, 3) := by decide +kernel
theorem dX6_signsLeft_16 : decode cX6_signsLeft 16 = .ok (.aload_n 1, 1) := by decide +kernel
theorem dX6_signsLeft_17 : decode cX6_signsLeft 17 = .ok (.invokevirtual 117, 3) := by decide +kernel
theorem dX6_signsLeft_20 : decode cX6_signsLeft 20 = .ok (.goto 4, 3) := by decide +kernel
theorem dX6_signsLeft_23 : decode cX6_signsLeft 23 = .ok (.iconst 0, 1) := by decide +kernel
theorem dX6_signsLeft_24 : decode cX6_signsLeft 24 = .ok (.ireturn, 1) := by decide +kernel
theorem dX6_tokensHaveNames_0 : decode cX6_tokensHaveNames 0 = .ok (.iconst 0, 1) := by decide +kernel
theorem dX6_tokensHaveNames_1 : decode cX6_tokensHaveNames 1 = .ok (.istore_n 1, 1) := by decide +kernel
theorem dX6_tokensHaveNames_2 : decode cX6_tokensHaveNames 2 = .ok (.iload_n 1, 1) := by decide +kernel
theorem dX6_tokensHaveNames_3 : decode cX6_tokensHaveNames 3 = .ok (.aload_n 0, 1) := by decide +kernel
theorem dX6_tokensHaveNames_4 : decode cX6_tokensHaveNames 4 = .ok (.getfield 44, 3) := by decide +kernel
theorem dX6_tokensHaveNames_7 : decode cX6_tokensHaveNames 7 = .ok (.getfield 164, 3) := by decide +kernel
theorem dX6_tokensHaveNames_10 : decode cX6_tokensHaveNames 10 = .ok (.if_icmp .ge 43, 3) := by decide +kernel
theorem dX6_tokensHaveNames_13 : decode cX6_tokensHaveNames 13 = .ok (.aload_n 0, 1) := by decide +kernel
theorem dX6_tokensHaveNames_14 : decode cX6_tokensHaveNames 14 = .ok (.getfield 44, 3) := by decide +kernel
theorem dX6_tokensHaveNames_17 : decode cX6_tokensHaveNames 17 = .ok (.iload_n 1, 1) := by decide +kernel
theorem dX6_tokensHaveNames_18 : decode cX6_tokensHaveNames 18 = .ok (.iconst 0, 1) := by decide +kernel
theorem dX6_tokensHaveNames_19 : decode cX6_tokensHaveNames 19 = .ok (.invokevirtual 150, 3) := by decide +kernel
theorem dX6_tokensHaveNames_22 : decode cX6_tokensHaveNames 22 = .ok (.iconst 1, 1) := by decide +kernel
theorem dX6_tokensHaveNames_23 : decode cX6_tokensHaveNames 23 = .ok (.if_icmp .ne 24, 3) := by decide +kernel
theorem dX6_tokensHaveNames_26 : decode cX6_tokensHaveNames 26 = .ok (.aload_n 0, 1) := by decide +kernel
theorem dX6_tokensHaveNames_27 : decode cX6_tokensHaveNames 27 = .ok (.getfield 37, 3) := by decide +kernel
theorem dX6_tokensHaveNames_30 : decode cX6_tokensHaveNames 30 = .ok (.aload_n 0, 1) := by decide +kernel
theorem dX6_tokensHaveNames_31 : decode cX6_tokensHaveNames 31 = .ok (.getfield 44, 3) := by decide +kernel
theorem dX6_tokensHaveNames_34 : decode cX6_tokensHaveNames 34 = .ok (.iload_n 1, 1) := by decide +kernel
theorem dX6_tokensHaveNames_35 : decode cX6_tokensHaveNames 35 = .ok (.iconst 1, 1) := by decide +kernel
theorem dX6_tokensHaveNames_36 : decode cX6_tokensHaveNames 36 = .ok (.invokevirtual 150, 3) := by decide +kernel
theorem dX6_tokensHaveNames_39 : decode cX6_tokensHaveNames 39 = .ok (.invokevirtual 184, 3) := by decide +kernel
theorem dX6_tokensHaveNames_42 : decode cX6_tokensHaveNames 42 = .ok (.ifCond .ne 5, 3) := by decide +kernel
theorem dX6_tokensHaveNames_45 : decode cX6_tokensHaveNames 45 = .ok (.iconst 0, 1) := by decide +kernel
theorem dX6_tokensHaveNames_46 : decode cX6_tokensHaveNames 46 = .ok (.ireturn, 1) := by decide +kernel
theorem dX6_tokensHaveNames_47 : decode cX6_tokensHaveNames 47 = .ok (.iinc 1 1, 3) := by decide +kernel
theorem dX6_tokensHaveNames_50 : decode cX6_tokensHaveNames 50 = .ok (.goto (-48), 3) := by decide +kernel
theorem dX6_tokensHaveNames_53 : decode cX6_tokensHaveNames 53 = .ok (.iconst 1, 1) := by decide +kernel
theorem dX6_tokensHaveNames_54 : decode cX6_tokensHaveNames 54 = .ok (.ireturn, 1) := by decide +kernel
theorem dX6_refusalAtOnce_0 : decode cX6_refusalAtOnce 0 = .ok (.aload_n 0, 1) := by decide +kernel
theorem dX6_refusalAtOnce_1 : decode cX6_refusalAtOnce 1 = .ok (.getfield 95, 3) := by decide +kernel
theorem dX6_refusalAtOnce_4 : decode cX6_refusalAtOnce 4 = .ok (.ifCond .gt 6, 3) := by decide +kernel
theorem dX6_refusalAtOnce_7 : decode cX6_refusalAtOnce 7 = .ok (.bipush (-3), 2) := by decide +kernel
theorem dX6_refusalAtOnce_9 : decode cX6_refusalAtOnce 9 = .ok (.ireturn, 1) := by decide +kernel
theorem dX6_refusalAtOnce_10 : decode cX6_refusalAtOnce 10 = .ok (.aload_n 0, 1) := by decide +kernel
theorem dX6_refusalAtOnce_11 : decode cX6_refusalAtOnce 11 = .ok (.getfield 44, 3) := by decide +kernel
theorem dX6_refusalAtOnce_14 : decode cX6_refusalAtOnce 14 = .ok (.invokevirtual 185, 3) := by decide +kernel
theorem dX6_refusalAtOnce_17 : decode cX6_refusalAtOnce 17 = .ok (.ifCond .eq 8, 3) := by decide +kernel
theorem dX6_refusalAtOnce_20 : decode cX6_refusalAtOnce 20 = .ok (.bipush (-4), 2) := by decide +kernel
theorem dX6_refusalAtOnce_22 : decode cX6_refusalAtOnce 22 = .ok (.goto 4, 3) := by decide +kernel
theorem dX6_refusalAtOnce_25 : decode cX6_refusalAtOnce 25 = .ok (.iconst 0, 1) := by decide +kernel
theorem dX6_refusalAtOnce_26 : decode cX6_refusalAtOnce 26 = .ok (.ireturn, 1) := by decide +kernel
theorem dX6_levelWithLine_0 : decode cX6_levelWithLine 0 = .ok (.aload_n 0, 1) := by decide +kernel
theorem dX6_levelWithLine_1 : decode cX6_levelWithLine 1 = .ok (.getfield 95, 3) := by decide +kernel
theorem dX6_levelWithLine_4 : decode cX6_levelWithLine 4 = .ok (.istore_n 1, 1) := by decide +kernel
theorem dX6_levelWithLine_5 : decode cX6_levelWithLine 5 = .ok (.iload_n 1, 1) := by decide +kernel
theorem dX6_levelWithLine_6 : decode cX6_levelWithLine 6 = .ok (.ifCond .le 88, 3) := by decide +kernel
theorem dX6_levelWithLine_9 : decode cX6_levelWithLine 9 = .ok (.aload_n 0, 1) := by decide +kernel
theorem dX6_levelWithLine_10 : decode cX6_levelWithLine 10 = .ok (.invokevirtual 102, 3) := by decide +kernel
theorem dX6_levelWithLine_13 : decode cX6_levelWithLine 13 = .ok (.astore_n 2, 1) := by decide +kernel
theorem dX6_levelWithLine_14 : decode cX6_levelWithLine 14 = .ok (.aload_n 2, 1) := by decide +kernel
theorem dX6_levelWithLine_15 : decode cX6_levelWithLine 15 = .ok (.ifnonnull 5, 3) := by decide +kernel
theorem dX6_levelWithLine_18 : decode cX6_levelWithLine 18 = .ok (.aconst_null, 1) := by decide +kernel
theorem dX6_levelWithLine_19 : decode cX6_levelWithLine 19 = .ok (.areturn, 1) := by decide +kernel
theorem dX6_levelWithLine_20 : decode cX6_levelWithLine 20 = .ok (.aload_n 2, 1) := by decide +kernel
theorem dX6_levelWithLine_21 : decode cX6_levelWithLine 21 = .ok (.getfield 133, 3) := by decide +kernel
theorem dX6_levelWithLine_24 : decode cX6_levelWithLine 24 = .ok (.ifCond .eq 5, 3) := by decide +kernel
theorem dX6_levelWithLine_27 : decode cX6_levelWithLine 27 = .ok (.aload_n 2, 1) := by decide +kernel
theorem dX6_levelWithLine_28 : decode cX6_levelWithLine 28 = .ok (.areturn, 1) := by decide +kernel
theorem dX6_levelWithLine_29 : decode cX6_levelWithLine 29 = .ok (.aload_n 2, 1) := by decide +kernel
theorem dX6_levelWithLine_30 : decode cX6_levelWithLine 30 = .ok (.getfield 106, 3) := by decide +kernel
theorem dX6_levelWithLine_33 : decode cX6_levelWithLine 33 = .ok (.ifCond .ne 45, 3) := by decide +kernel
theorem dX6_levelWithLine_36 : decode cX6_levelWithLine 36 = .ok (.aload_n 2, 1) := by decide +kernel
theorem dX6_levelWithLine_37 : decode cX6_levelWithLine 37 = .ok (.getfield 188, 3) := by decide +kernel
theorem dX6_levelWithLine_40 : decode cX6_levelWithLine 40 = .ok (.aload_n 0, 1) := by decide +kernel
theorem dX6_levelWithLine_41 : decode cX6_levelWithLine 41 = .ok (.getfield 23, 3) := by decide +kernel
theorem dX6_levelWithLine_44 : decode cX6_levelWithLine 44 = .ok (.aload_n 2, 1) := by decide +kernel
theorem dX6_levelWithLine_45 : decode cX6_levelWithLine 45 = .ok (.getfield 191, 3) := by decide +kernel
theorem dX6_levelWithLine_48 : decode cX6_levelWithLine 48 = .ok (.invokevirtual 194, 3) := by decide +kernel
theorem dX6_levelWithLine_51 : decode cX6_levelWithLine 51 = .ok (.if_icmp .ge 27, 3) := by decide +kernel
theorem dX6_levelWithLine_54 : decode cX6_levelWithLine 54 = .ok (.aload_n 2, 1) := by decide +kernel
theorem dX6_levelWithLine_55 : decode cX6_levelWithLine 55 = .ok (.aload_n 0, 1) := by decide +kernel
theorem dX6_levelWithLine_56 : decode cX6_levelWithLine 56 = .ok (.getfield 23, 3) := by decide +kernel
theorem dX6_levelWithLine_59 : decode cX6_levelWithLine 59 = .ok (.aload_n 0, 1) := by decide +kernel
theorem dX6_levelWithLine_60 : decode cX6_levelWithLine 60 = .ok (.getfield 55, 3) := by decide +kernel
theorem dX6_levelWithLine_63 : decode cX6_levelWithLine 63 = .ok (.invokevirtual 197, 3) := by decide +kernel
theorem dX6_levelWithLine_66 : decode cX6_levelWithLine 66 = .ok (.aload_n 0, 1) := by decide +kernel
theorem dX6_levelWithLine_67 : decode cX6_levelWithLine 67 = .ok (.dup, 1) := by decide +kernel
theorem dX6_levelWithLine_68 : decode cX6_levelWithLine 68 = .ok (.getfield 175, 3) := by decide +kernel
theorem dX6_levelWithLine_71 : decode cX6_levelWithLine 71 = .ok (.iconst 1, 1) := by decide +kernel
theorem dX6_levelWithLine_72 : decode cX6_levelWithLine 72 = .ok (.iadd, 1) := by decide +kernel
theorem dX6_levelWithLine_73 : decode cX6_levelWithLine 73 = .ok (.putfield 175, 3) := by decide +kernel
theorem dX6_levelWithLine_76 : decode cX6_levelWithLine 76 = .ok (.aload_n 2, 1) := by decide +kernel
theorem dX6_levelWithLine_77 : decode cX6_levelWithLine 77 = .ok (.areturn, 1) := by decide +kernel
theorem dX6_levelWithLine_78 : decode cX6_levelWithLine 78 = .ok (.aload_n 0, 1) := by decide +kernel
theorem dX6_levelWithLine_79 : decode cX6_levelWithLine 79 = .ok (.dup, 1) := by decide +kernel
theorem dX6_levelWithLine_80 : decode cX6_levelWithLine 80 = .ok (.getfield 95, 3) := by decide +kernel
theorem dX6_levelWithLine_83 : decode cX6_levelWithLine 83 = .ok (.iconst 1, 1) := by decide +kernel
theorem dX6_levelWithLine_84 : decode cX6_levelWithLine 84 = .ok (.isub, 1) := by decide +kernel
theorem dX6_levelWithLine_85 : decode cX6_levelWithLine 85 = .ok (.putfield 95, 3) := by decide +kernel
theorem dX6_levelWithLine_88 : decode cX6_levelWithLine 88 = .ok (.iinc 1 (-1), 3) := by decide +kernel
theorem dX6_levelWithLine_91 : decode cX6_levelWithLine 91 = .ok (.goto (-86), 3) := by decide +kernel
theorem dX6_levelWithLine_94 : decode cX6_levelWithLine 94 = .ok (.aconst_null, 1) := by decide +kernel
theorem dX6_levelWithLine_95 : decode cX6_levelWithLine 95 = .ok (.areturn, 1) := by decide +kernel
theorem dX6_dropUsedLine_0 : decode cX6_dropUsedLine 0 = .ok (.aload_n 0, 1) := by decide +kernel
theorem dX6_dropUsedLine_1 : decode cX6_dropUsedLine 1 = .ok (.iconst 0, 1) := by decide +kernel
theorem dX6_dropUsedLine_2 : decode cX6_dropUsedLine 2 = .ok (.putfield 133, 3) := by decide +kernel
theorem dX6_dropUsedLine_5 : decode cX6_dropUsedLine 5 = .ok (.bipush (-6), 2) := by decide +kernel
theorem dX6_dropUsedLine_7 : decode cX6_dropUsedLine 7 = .ok (.ireturn, 1) := by decide +kernel
theorem dX6_readToken_0 : decode cX6_readToken 0 = .ok (.aload_n 1, 1) := by decide +kernel
theorem dX6_readToken_1 : decode cX6_readToken 1 = .ok (.getfield 127, 3) := by decide +kernel
theorem dX6_readToken_4 : decode cX6_readToken 4 = .ok (.istore_n 2, 1) := by decide +kernel
theorem dX6_readToken_5 : decode cX6_readToken 5 = .ok (.aload_n 1, 1) := by decide +kernel
theorem dX6_readToken_6 : decode cX6_readToken 6 = .ok (.iload_n 2, 1) := by decide +kernel
theorem dX6_readToken_7 : decode cX6_readToken 7 = .ok (.aload_n 0, 1) := by decide +kernel
theorem dX6_readToken_8 : decode cX6_readToken 8 = .ok (.getfield 10, 3) := by decide +kernel
theorem dX6_readToken_11 : decode cX6_readToken 11 = .ok (.invokevirtual 201, 3) := by decide +kernel
theorem dX6_readToken_14 : decode cX6_readToken 14 = .ok (.aload_n 1, 1) := by decide +kernel
theorem dX6_readToken_15 : decode cX6_readToken 15 = .ok (.getfield 205, 3) := by decide +kernel
theorem dX6_readToken_18 : decode cX6_readToken 18 = .ok (.istore_n 3, 1) := by decide +kernel
theorem dX6_readToken_19 : decode cX6_readToken 19 = .ok (.aload_n 0, 1) := by decide +kernel
theorem dX6_readToken_20 : decode cX6_readToken 20 = .ok (.getfield 10, 3) := by decide +kernel
theorem dX6_readToken_23 : decode cX6_readToken 23 = .ok (.iload_n 3, 1) := by decide +kernel
theorem dX6_readToken_24 : decode cX6_readToken 24 = .ok (.invokevirtual 158, 3) := by decide +kernel
theorem dX6_readToken_27 : decode cX6_readToken 27 = .ok (.istore 4, 2) := by decide +kernel
theorem dX6_readToken_29 : decode cX6_readToken 29 = .ok (.aload_n 1, 1) := by decide +kernel
theorem dX6_readToken_30 : decode cX6_readToken 30 = .ok (.aload_n 1, 1) := by decide +kernel
theorem dX6_readToken_31 : decode cX6_readToken 31 = .ok (.getfield 207, 3) := by decide +kernel
theorem dX6_readToken_34 : decode cX6_readToken 34 = .ok (.putfield 127, 3) := by decide +kernel
theorem dX6_readToken_37 : decode cX6_readToken 37 = .ok (.iload 4, 2) := by decide +kernel
theorem dX6_readToken_39 : decode cX6_readToken 39 = .ok (.tableswitch 136 0 15 #[77, 136, 136, 136, 136, 84, 136, 136, 136, 91, 94, 136, 136, 101, 109, 117], 77) := by decide +kernel
theorem dX6_readToken_116 : decode cX6_readToken 116 = .ok (.aload_n 0, 1) := by decide +kernel
theorem dX6_readToken_117 : decode cX6_readToken 117 = .ok (.aload_n 1, 1) := by decide +kernel
theorem dX6_readToken_118 : decode cX6_readToken 118 = .ok (.iload_n 2, 1) := by decide +kernel
theorem dX6_readToken_119 : decode cX6_readToken 119 = .ok (.invokevirtual 210, 3) := by decide +kernel
theorem dX6_readToken_122 : decode cX6_readToken 122 = .ok (.ireturn, 1) := by decide +kernel
theorem dX6_readToken_123 : decode cX6_readToken 123 = .ok (.aload_n 0, 1) := by decide +kernel
theorem dX6_readToken_124 : decode cX6_readToken 124 = .ok (.aload_n 1, 1) := by decide +kernel
theorem dX6_readToken_125 : decode cX6_readToken 125 = .ok (.iload_n 2, 1) := by decide +kernel
theorem dX6_readToken_126 : decode cX6_readToken 126 = .ok (.invokevirtual 214, 3) := by decide +kernel
theorem dX6_readToken_129 : decode cX6_readToken 129 = .ok (.ireturn, 1) := by decide +kernel
theorem dX6_readToken_130 : decode cX6_readToken 130 = .ok (.bipush (-6), 2) := by decide +kernel
theorem dX6_readToken_132 : decode cX6_readToken 132 = .ok (.ireturn, 1) := by decide +kernel
theorem dX6_readToken_133 : decode cX6_readToken 133 = .ok (.aload_n 0, 1) := by decide +kernel
theorem dX6_readToken_134 : decode cX6_readToken 134 = .ok (.aload_n 1, 1) := by decide +kernel
theorem dX6_readToken_135 : decode cX6_readToken 135 = .ok (.iload_n 2, 1) := by decide +kernel
theorem dX6_readToken_136 : decode cX6_readToken 136 = .ok (.invokevirtual 217, 3) := by decide +kernel
theorem dX6_readToken_139 : decode cX6_readToken 139 = .ok (.ireturn, 1) := by decide +kernel
theorem dX6_readToken_140 : decode cX6_readToken 140 = .ok (.aload_n 0, 1) := by decide +kernel
theorem dX6_readToken_141 : decode cX6_readToken 141 = .ok (.aload_n 1, 1) := by decide +kernel
theorem dX6_readToken_142 : decode cX6_readToken 142 = .ok (.iload_n 3, 1) := by decide +kernel
theorem dX6_readToken_143 : decode cX6_readToken 143 = .ok (.iload_n 2, 1) := by decide +kernel
theorem dX6_readToken_144 : decode cX6_readToken 144 = .ok (.invokevirtual 220, 3) := by decide +kernel
theorem dX6_readToken_147 : decode cX6_readToken 147 = .ok (.ireturn, 1) := by decide +kernel
theorem dX6_readToken_148 : decode cX6_readToken 148 = .ok (.aload_n 1, 1) := by decide +kernel
theorem dX6_readToken_149 : decode cX6_readToken 149 = .ok (.iconst 0, 1) := by decide +kernel
theorem dX6_readToken_150 : decode cX6_readToken 150 = .ok (.putfield 133, 3) := by decide +kernel
theorem dX6_readToken_153 : decode cX6_readToken 153 = .ok (.bipush (-6), 2) := by decide +kernel
theorem dX6_readToken_155 : decode cX6_readToken 155 = .ok (.ireturn, 1) := by decide +kernel
theorem dX6_readToken_156 : decode cX6_readToken 156 = .ok (.aload_n 0, 1) := by decide +kernel
theorem dX6_readToken_157 : decode cX6_readToken 157 = .ok (.getfield 51, 3) := by decide +kernel
theorem dX6_readToken_160 : decode cX6_readToken 160 = .ok (.iconst 1, 1) := by decide +kernel
theorem dX6_readToken_161 : decode cX6_readToken 161 = .ok (.aload_n 0, 1) := by decide +kernel
theorem dX6_readToken_162 : decode cX6_readToken 162 = .ok (.getfield 44, 3) := by decide +kernel
theorem dX6_readToken_165 : decode cX6_readToken 165 = .ok (.getfield 164, 3) := by decide +kernel
theorem dX6_readToken_168 : decode cX6_readToken 168 = .ok (.iload_n 3, 1) := by decide +kernel
theorem dX6_readToken_169 : decode cX6_readToken 169 = .ok (.invokevirtual 224, 3) := by decide +kernel
theorem dX6_readToken_172 : decode cX6_readToken 172 = .ok (.bipush (-6), 2) := by decide +kernel
theorem dX6_readToken_174 : decode cX6_readToken 174 = .ok (.ireturn, 1) := by decide +kernel
theorem dX6_readToken_175 : decode cX6_readToken 175 = .ok (.aload_n 1, 1) := by decide +kernel
theorem dX6_readToken_176 : decode cX6_readToken 176 = .ok (.iconst 1, 1) := by decide +kernel
theorem dX6_readToken_177 : decode cX6_readToken 177 = .ok (.putfield 161, 3) := by decide +kernel
theorem dX6_readToken_180 : decode cX6_readToken 180 = .ok (.aload_n 0, 1) := by decide +kernel
theorem dX6_readToken_181 : decode cX6_readToken 181 = .ok (.getfield 44, 3) := by decide +kernel
theorem dX6_readToken_184 : decode cX6_readToken 184 = .ok (.iconst 0, 1) := by decide +kernel
theorem dX6_readToken_185 : decode cX6_readToken 185 = .ok (.iload_n 3, 1) := by decide +kernel
theorem dX6_readToken_186 : decode cX6_readToken 186 = .ok (.iload 4, 2) := by decide +kernel
theorem dX6_readToken_188 : decode cX6_readToken 188 = .ok (.aload_n 1, 1) := by decide +kernel
theorem dX6_readToken_189 : decode cX6_readToken 189 = .ok (.iload_n 2, 1) := by decide +kernel
theorem dX6_readToken_190 : decode cX6_readToken 190 = .ok (.invokevirtual 136, 3) := by decide +kernel
theorem dX6_readToken_193 : decode cX6_readToken 193 = .ok (.ireturn, 1) := by decide +kernel
theorem dX6_readLineEnd_0 : decode cX6_readLineEnd 0 = .ok (.aload_n 1, 1) := by decide +kernel
theorem dX6_readLineEnd_1 : decode cX6_readLineEnd 1 = .ok (.iconst 0, 1) := by decide +kernel
theorem dX6_readLineEnd_2 : decode cX6_readLineEnd 2 = .ok (.putfield 133, 3) := by decide +kernel
theorem dX6_readLineEnd_5 : decode cX6_readLineEnd 5 = .ok (.aload_n 1, 1) := by decide +kernel
theorem dX6_readLineEnd_6 : decode cX6_readLineEnd 6 = .ok (.getfield 161, 3) := by decide +kernel
theorem dX6_readLineEnd_9 : decode cX6_readLineEnd 9 = .ok (.ifCond .ne 16, 3) := by decide +kernel
theorem dX6_readLineEnd_12 : decode cX6_readLineEnd 12 = .ok (.aload_n 0, 1) := by decide +kernel
theorem dX6_readLineEnd_13 : decode cX6_readLineEnd 13 = .ok (.getfield 44, 3) := by decide +kernel
theorem dX6_readLineEnd_16 : decode cX6_readLineEnd 16 = .ok (.iconst 1, 1) := by decide +kernel
theorem dX6_readLineEnd_17 : decode cX6_readLineEnd 17 = .ok (.iconst 0, 1) := by decide +kernel
theorem dX6_readLineEnd_18 : decode cX6_readLineEnd 18 = .ok (.iconst 0, 1) := by decide +kernel
theorem dX6_readLineEnd_19 : decode cX6_readLineEnd 19 = .ok (.aload_n 1, 1) := by decide +kernel
theorem dX6_readLineEnd_20 : decode cX6_readLineEnd 20 = .ok (.iload_n 2, 1) := by decide +kernel
theorem dX6_readLineEnd_21 : decode cX6_readLineEnd 21 = .ok (.invokevirtual 136, 3) := by decide +kernel
theorem dX6_readLineEnd_24 : decode cX6_readLineEnd 24 = .ok (.ireturn, 1) := by decide +kernel
theorem dX6_readLineEnd_25 : decode cX6_readLineEnd 25 = .ok (.aload_n 1, 1) := by decide +kernel
theorem dX6_readLineEnd_26 : decode cX6_readLineEnd 26 = .ok (.getfield 161, 3) := by decide +kernel
theorem dX6_readLineEnd_29 : decode cX6_readLineEnd 29 = .ok (.iconst 1, 1) := by decide +kernel
theorem dX6_readLineEnd_30 : decode cX6_readLineEnd 30 = .ok (.if_icmp .ne 18, 3) := by decide +kernel
theorem dX6_readLineEnd_33 : decode cX6_readLineEnd 33 = .ok (.aload_n 0, 1) := by decide +kernel
theorem dX6_readLineEnd_34 : decode cX6_readLineEnd 34 = .ok (.getfield 44, 3) := by decide +kernel
theorem dX6_readLineEnd_37 : decode cX6_readLineEnd 37 = .ok (.iconst 0, 1) := by decide +kernel
theorem dX6_readLineEnd_38 : decode cX6_readLineEnd 38 = .ok (.bipush 32, 2) := by decide +kernel
theorem dX6_readLineEnd_40 : decode cX6_readLineEnd 40 = .ok (.bipush 10, 2) := by decide +kernel
theorem dX6_readLineEnd_42 : decode cX6_readLineEnd 42 = .ok (.aload_n 1, 1) := by decide +kernel
theorem dX6_readLineEnd_43 : decode cX6_readLineEnd 43 = .ok (.iload_n 2, 1) := by decide +kernel
theorem dX6_readLineEnd_44 : decode cX6_readLineEnd 44 = .ok (.invokevirtual 136, 3) := by decide +kernel
theorem dX6_readLineEnd_47 : decode cX6_readLineEnd 47 = .ok (.ireturn, 1) := by decide +kernel
theorem dX6_readLineEnd_48 : decode cX6_readLineEnd 48 = .ok (.bipush (-6), 2) := by decide +kernel
theorem dX6_readLineEnd_50 : decode cX6_readLineEnd 50 = .ok (.ireturn, 1) := by decide +kernel
theorem dX6_readBlank_0 : decode cX6_readBlank 0 = .ok (.aload_n 1, 1) := by decide +kernel
theorem dX6_readBlank_1 : decode cX6_readBlank 1 = .ok (.getfield 161, 3) := by decide +kernel
theorem dX6_readBlank_4 : decode cX6_readBlank 4 = .ok (.iconst 1, 1) := by decide +kernel
theorem dX6_readBlank_5 : decode cX6_readBlank 5 = .ok (.if_icmp .eq 6, 3) := by decide +kernel
theorem dX6_readBlank_8 : decode cX6_readBlank 8 = .ok (.bipush (-6), 2) := by decide +kernel
theorem dX6_readBlank_10 : decode cX6_readBlank 10 = .ok (.ireturn, 1) := by decide +kernel
theorem dX6_readBlank_11 : decode cX6_readBlank 11 = .ok (.aload_n 1, 1) := by decide +kernel
theorem dX6_readBlank_12 : decode cX6_readBlank 12 = .ok (.iconst 2, 1) := by decide +kernel
theorem dX6_readBlank_13 : decode cX6_readBlank 13 = .ok (.putfield 161, 3) := by decide +kernel
theorem dX6_readBlank_16 : decode cX6_readBlank 16 = .ok (.aload_n 0, 1) := by decide +kernel
theorem dX6_readBlank_17 : decode cX6_readBlank 17 = .ok (.getfield 44, 3) := by decide +kernel
theorem dX6_readBlank_20 : decode cX6_readBlank 20 = .ok (.iconst 0, 1) := by decide +kernel
theorem dX6_readBlank_21 : decode cX6_readBlank 21 = .ok (.bipush 32, 2) := by decide +kernel
theorem dX6_readBlank_23 : decode cX6_readBlank 23 = .ok (.bipush 10, 2) := by decide +kernel
theorem dX6_readBlank_25 : decode cX6_readBlank 25 = .ok (.aload_n 1, 1) := by decide +kernel
theorem dX6_readBlank_26 : decode cX6_readBlank 26 = .ok (.iload_n 2, 1) := by decide +kernel
theorem dX6_readBlank_27 : decode cX6_readBlank 27 = .ok (.invokevirtual 136, 3) := by decide +kernel
theorem dX6_readBlank_30 : decode cX6_readBlank 30 = .ok (.ireturn, 1) := by decide +kernel
theorem dX6_readActive_0 : decode cX6_readActive 0 = .ok (.aload_n 1, 1) := by decide +kernel
theorem dX6_readActive_1 : decode cX6_readActive 1 = .ok (.iconst 1, 1) := by decide +kernel
theorem dX6_readActive_2 : decode cX6_readActive 2 = .ok (.putfield 161, 3) := by decide +kernel
theorem dX6_readActive_5 : decode cX6_readActive 5 = .ok (.iload_n 2, 1) := by decide +kernel
theorem dX6_readActive_6 : decode cX6_readActive 6 = .ok (.invokestatic 59, 3) := by decide +kernel
theorem dX6_readActive_9 : decode cX6_readActive 9 = .ok (.ifCond .eq 28, 3) := by decide +kernel
theorem dX6_readActive_12 : decode cX6_readActive 12 = .ok (.aload_n 0, 1) := by decide +kernel
theorem dX6_readActive_13 : decode cX6_readActive 13 = .ok (.getfield 16, 3) := by decide +kernel
theorem dX6_readActive_16 : decode cX6_readActive 16 = .ok (.iload_n 2, 1) := by decide +kernel
theorem dX6_readActive_17 : decode cX6_readActive 17 = .ok (.baload, 1) := by decide +kernel
theorem dX6_readActive_18 : decode cX6_readActive 18 = .ok (.ifCond .ne 19, 3) := by decide +kernel
theorem dX6_readActive_21 : decode cX6_readActive 21 = .ok (.aload_n 0, 1) := by decide +kernel
theorem dX6_readActive_22 : decode cX6_readActive 22 = .ok (.getfield 51, 3) := by decide +kernel
theorem dX6_readActive_25 : decode cX6_readActive 25 = .ok (.iconst 2, 1) := by decide +kernel
theorem dX6_readActive_26 : decode cX6_readActive 26 = .ok (.aload_n 0, 1) := by decide +kernel
theorem dX6_readActive_27 : decode cX6_readActive 27 = .ok (.getfield 44, 3) := by decide +kernel
theorem dX6_readActive_30 : decode cX6_readActive 30 = .ok (.getfield 164, 3) := by decide +kernel
theorem dX6_readActive_33 : decode cX6_readActive 33 = .ok (.iload_n 2, 1) := by decide +kernel
theorem dX6_readActive_34 : decode cX6_readActive 34 = .ok (.invokevirtual 224, 3) := by decide +kernel
theorem dX6_readActive_37 : decode cX6_readActive 37 = .ok (.aload_n 0, 1) := by decide +kernel
theorem dX6_readActive_38 : decode cX6_readActive 38 = .ok (.getfield 44, 3) := by decide +kernel
theorem dX6_readActive_41 : decode cX6_readActive 41 = .ok (.iconst 2, 1) := by decide +kernel
theorem dX6_readActive_42 : decode cX6_readActive 42 = .ok (.iload_n 2, 1) := by decide +kernel
theorem dX6_readActive_43 : decode cX6_readActive 43 = .ok (.bipush 13, 2) := by decide +kernel
theorem dX6_readActive_45 : decode cX6_readActive 45 = .ok (.aload_n 1, 1) := by decide +kernel
theorem dX6_readActive_46 : decode cX6_readActive 46 = .ok (.iload_n 3, 1) := by decide +kernel
theorem dX6_readActive_47 : decode cX6_readActive 47 = .ok (.invokevirtual 136, 3) := by decide +kernel
theorem dX6_readActive_50 : decode cX6_readActive 50 = .ok (.ireturn, 1) := by decide +kernel
theorem dX6_readName_0 : decode cX6_readName 0 = .ok (.aload_n 0, 1) := by decide +kernel
theorem dX6_readName_1 : decode cX6_readName 1 = .ok (.getfield 37, 3) := by decide +kernel
theorem dX6_readName_4 : decode cX6_readName 4 = .ok (.invokevirtual 228, 3) := by decide +kernel
theorem dX6_readName_7 : decode cX6_readName 7 = .ok (.aload_n 1, 1) := by decide +kernel
theorem dX6_readName_8 : decode cX6_readName 8 = .ok (.aload_n 1, 1) := by decide +kernel
theorem dX6_readName_9 : decode cX6_readName 9 = .ok (.getfield 127, 3) := by decide +kernel
theorem dX6_readName_12 : decode cX6_readName 12 = .ok (.aload_n 0, 1) := by decide +kernel
theorem dX6_readName_13 : decode cX6_readName 13 = .ok (.getfield 10, 3) := by decide +kernel
theorem dX6_readName_16 : decode cX6_readName 16 = .ok (.invokevirtual 201, 3) := by decide +kernel
theorem dX6_readName_19 : decode cX6_readName 19 = .ok (.aload_n 0, 1) := by decide +kernel
theorem dX6_readName_20 : decode cX6_readName 20 = .ok (.getfield 10, 3) := by decide +kernel
theorem dX6_readName_23 : decode cX6_readName 23 = .ok (.aload_n 1, 1) := by decide +kernel
theorem dX6_readName_24 : decode cX6_readName 24 = .ok (.getfield 205, 3) := by decide +kernel
theorem dX6_readName_27 : decode cX6_readName 27 = .ok (.invokevirtual 158, 3) := by decide +kernel
theorem dX6_readName_30 : decode cX6_readName 30 = .ok (.istore_n 3, 1) := by decide +kernel
theorem dX6_readName_31 : decode cX6_readName 31 = .ok (.iload_n 3, 1) := by decide +kernel
theorem dX6_readName_32 : decode cX6_readName 32 = .ok (.bipush 11, 2) := by decide +kernel
theorem dX6_readName_34 : decode cX6_readName 34 = .ok (.if_icmp .ne 16, 3) := by decide +kernel
theorem dX6_readName_37 : decode cX6_readName 37 = .ok (.aload_n 0, 1) := by decide +kernel
theorem dX6_readName_38 : decode cX6_readName 38 = .ok (.aload_n 1, 1) := by decide +kernel
theorem dX6_readName_39 : decode cX6_readName 39 = .ok (.invokevirtual 231, 3) := by decide +kernel
theorem dX6_readName_42 : decode cX6_readName 42 = .ok (.aload_n 1, 1) := by decide +kernel
theorem dX6_readName_43 : decode cX6_readName 43 = .ok (.iconst 2, 1) := by decide +kernel
theorem dX6_readName_44 : decode cX6_readName 44 = .ok (.putfield 161, 3) := by decide +kernel
theorem dX6_readName_47 : decode cX6_readName 47 = .ok (.goto 52, 3) := by decide +kernel
theorem dX6_readName_50 : decode cX6_readName 50 = .ok (.aload_n 1, 1) := by decide +kernel
theorem dX6_readName_51 : decode cX6_readName 51 = .ok (.getfield 205, 3) := by decide +kernel
theorem dX6_readName_54 : decode cX6_readName 54 = .ok (.ifCond .lt 40, 3) := by decide +kernel
theorem dX6_readName_57 : decode cX6_readName 57 = .ok (.aload_n 0, 1) := by decide +kernel
theorem dX6_readName_58 : decode cX6_readName 58 = .ok (.getfield 37, 3) := by decide +kernel
theorem dX6_readName_61 : decode cX6_readName 61 = .ok (.aload_n 1, 1) := by decide +kernel
theorem dX6_readName_62 : decode cX6_readName 62 = .ok (.getfield 205, 3) := by decide +kernel
theorem dX6_readName_65 : decode cX6_readName 65 = .ok (.invokevirtual 235, 3) := by decide +kernel
theorem dX6_readName_68 : decode cX6_readName 68 = .ok (.aload_n 1, 1) := by decide +kernel
theorem dX6_readName_69 : decode cX6_readName 69 = .ok (.aload_n 1, 1) := by decide +kernel
theorem dX6_readName_70 : decode cX6_readName 70 = .ok (.getfield 207, 3) := by decide +kernel
theorem dX6_readName_73 : decode cX6_readName 73 = .ok (.putfield 127, 3) := by decide +kernel
theorem dX6_readName_76 : decode cX6_readName 76 = .ok (.aload_n 1, 1) := by decide +kernel
theorem dX6_readName_77 : decode cX6_readName 77 = .ok (.iload_n 3, 1) := by decide +kernel
theorem dX6_readName_78 : decode cX6_readName 78 = .ok (.bipush 10, 2) := by decide +kernel
theorem dX6_readName_80 : decode cX6_readName 80 = .ok (.if_icmp .ne 7, 3) := by decide +kernel
theorem dX6_readName_83 : decode cX6_readName 83 = .ok (.iconst 2, 1) := by decide +kernel
theorem dX6_readName_84 : decode cX6_readName 84 = .ok (.goto 4, 3) := by decide +kernel
theorem dX6_readName_87 : decode cX6_readName 87 = .ok (.iconst 1, 1) := by decide +kernel
theorem dX6_readName_88 : decode cX6_readName 88 = .ok (.putfield 161, 3) := by decide +kernel
theorem dX6_readName_91 : decode cX6_readName 91 = .ok (.goto 8, 3) := by decide +kernel
theorem dX6_readName_94 : decode cX6_readName 94 = .ok (.aload_n 1, 1) := by decide +kernel
theorem dX6_readName_95 : decode cX6_readName 95 = .ok (.iconst 1, 1) := by decide +kernel
theorem dX6_readName_96 : decode cX6_readName 96 = .ok (.putfield 161, 3) := by decide +kernel
theorem dX6_readName_99 : decode cX6_readName 99 = .ok (.aload_n 0, 1) := by decide +kernel
theorem dX6_readName_100 : decode cX6_readName 100 = .ok (.getfield 37, 3) := by decide +kernel
theorem dX6_readName_103 : decode cX6_readName 103 = .ok (.invokevirtual 238, 3) := by decide +kernel
theorem dX6_readName_106 : decode cX6_readName 106 = .ok (.ifCond .eq 19, 3) := by decide +kernel
theorem dX6_readName_109 : decode cX6_readName 109 = .ok (.aload_n 0, 1) := by decide +kernel
theorem dX6_readName_110 : decode cX6_readName 110 = .ok (.getfield 51, 3) := by decide +kernel
theorem dX6_readName_113 : decode cX6_readName 113 = .ok (.iconst 3, 1) := by decide +kernel
theorem dX6_readName_114 : decode cX6_readName 114 = .ok (.aload_n 0, 1) := by decide +kernel
theorem dX6_readName_115 : decode cX6_readName 115 = .ok (.getfield 44, 3) := by decide +kernel
theorem dX6_readName_118 : decode cX6_readName 118 = .ok (.getfield 164, 3) := by decide +kernel
theorem dX6_readName_121 : decode cX6_readName 121 = .ok (.iconst 0, 1) := by decide +kernel
theorem dX6_readName_122 : decode cX6_readName 122 = .ok (.invokevirtual 224, 3) := by decide +kernel
theorem dX6_readName_125 : decode cX6_readName 125 = .ok (.aload_n 0, 1) := by decide +kernel
theorem dX6_readName_126 : decode cX6_readName 126 = .ok (.getfield 37, 3) := by decide +kernel
theorem dX6_readName_129 : decode cX6_readName 129 = .ok (.invokevirtual 241, 3) := by decide +kernel
theorem dX6_readName_132 : decode cX6_readName 132 = .ok (.istore 4, 2) := by decide +kernel
theorem dX6_readName_134 : decode cX6_readName 134 = .ok (.iload 4, 2) := by decide +kernel
theorem dX6_readName_136 : decode cX6_readName 136 = .ok (.ifCond .ge 8, 3) := by decide +kernel
theorem dX6_readName_139 : decode cX6_readName 139 = .ok (.bipush (-4), 2) := by decide +kernel
theorem dX6_readName_141 : decode cX6_readName 141 = .ok (.goto 16, 3) := by decide +kernel
theorem dX6_readName_144 : decode cX6_readName 144 = .ok (.aload_n 0, 1) := by decide +kernel
theorem dX6_readName_145 : decode cX6_readName 145 = .ok (.getfield 44, 3) := by decide +kernel
theorem dX6_readName_148 : decode cX6_readName 148 = .ok (.iconst 1, 1) := by decide +kernel
theorem dX6_readName_149 : decode cX6_readName 149 = .ok (.iload 4, 2) := by decide +kernel
theorem dX6_readName_151 : decode cX6_readName 151 = .ok (.iconst 0, 1) := by decide +kernel
theorem dX6_readName_152 : decode cX6_readName 152 = .ok (.aload_n 1, 1) := by decide +kernel
theorem dX6_readName_153 : decode cX6_readName 153 = .ok (.iload_n 2, 1) := by decide +kernel
theorem dX6_readName_154 : decode cX6_readName 154 = .ok (.invokevirtual 136, 3) := by decide +kernel
theorem dX6_readName_157 : decode cX6_readName 157 = .ok (.ireturn, 1) := by decide +kernel
theorem dX6_draftLetters_0 : decode cX6_draftLetters 0 = .ok (.aload_n 1, 1) := by decide +kernel
theorem dX6_draftLetters_1 : decode cX6_draftLetters 1 = .ok (.invokevirtual 117, 3) := by decide +kernel
theorem dX6_draftLetters_4 : decode cX6_draftLetters 4 = .ok (.istore_n 2, 1) := by decide +kernel
theorem dX6_draftLetters_5 : decode cX6_draftLetters 5 = .ok (.iload_n 2, 1) := by decide +kernel
theorem dX6_draftLetters_6 : decode cX6_draftLetters 6 = .ok (.ifCond .le 57, 3) := by decide +kernel
theorem dX6_draftLetters_9 : decode cX6_draftLetters 9 = .ok (.aload_n 1, 1) := by decide +kernel
theorem dX6_draftLetters_10 : decode cX6_draftLetters 10 = .ok (.aload_n 1, 1) := by decide +kernel
theorem dX6_draftLetters_11 : decode cX6_draftLetters 11 = .ok (.getfield 127, 3) := by decide +kernel
theorem dX6_draftLetters_14 : decode cX6_draftLetters 14 = .ok (.aload_n 0, 1) := by decide +kernel
theorem dX6_draftLetters_15 : decode cX6_draftLetters 15 = .ok (.getfield 10, 3) := by decide +kernel
theorem dX6_draftLetters_18 : decode cX6_draftLetters 18 = .ok (.invokevirtual 201, 3) := by decide +kernel
theorem dX6_draftLetters_21 : decode cX6_draftLetters 21 = .ok (.aload_n 0, 1) := by decide +kernel
theorem dX6_draftLetters_22 : decode cX6_draftLetters 22 = .ok (.getfield 10, 3) := by decide +kernel
theorem dX6_draftLetters_25 : decode cX6_draftLetters 25 = .ok (.aload_n 1, 1) := by decide +kernel
theorem dX6_draftLetters_26 : decode cX6_draftLetters 26 = .ok (.getfield 205, 3) := by decide +kernel
theorem dX6_draftLetters_29 : decode cX6_draftLetters 29 = .ok (.invokevirtual 158, 3) := by decide +kernel
theorem dX6_draftLetters_32 : decode cX6_draftLetters 32 = .ok (.bipush 11, 2) := by decide +kernel
theorem dX6_draftLetters_34 : decode cX6_draftLetters 34 = .ok (.if_icmp .eq 4, 3) := by decide +kernel
theorem dX6_draftLetters_37 : decode cX6_draftLetters 37 = .ok (.return_, 1) := by decide +kernel
theorem dX6_draftLetters_38 : decode cX6_draftLetters 38 = .ok (.aload_n 0, 1) := by decide +kernel
theorem dX6_draftLetters_39 : decode cX6_draftLetters 39 = .ok (.getfield 37, 3) := by decide +kernel
theorem dX6_draftLetters_42 : decode cX6_draftLetters 42 = .ok (.aload_n 1, 1) := by decide +kernel
theorem dX6_draftLetters_43 : decode cX6_draftLetters 43 = .ok (.getfield 205, 3) := by decide +kernel
theorem dX6_draftLetters_46 : decode cX6_draftLetters 46 = .ok (.invokevirtual 235, 3) := by decide +kernel
theorem dX6_draftLetters_49 : decode cX6_draftLetters 49 = .ok (.aload_n 1, 1) := by decide +kernel
theorem dX6_draftLetters_50 : decode cX6_draftLetters 50 = .ok (.aload_n 1, 1) := by decide +kernel
theorem dX6_draftLetters_51 : decode cX6_draftLetters 51 = .ok (.getfield 207, 3) := by decide +kernel
theorem dX6_draftLetters_54 : decode cX6_draftLetters 54 = .ok (.putfield 127, 3) := by decide +kernel
theorem dX6_draftLetters_57 : decode cX6_draftLetters 57 = .ok (.iinc 2 (-1), 3) := by decide +kernel
theorem dX6_draftLetters_60 : decode cX6_draftLetters 60 = .ok (.goto (-55), 3) := by decide +kernel
theorem dX6_draftLetters_63 : decode cX6_draftLetters 63 = .ok (.return_, 1) := by decide +kernel
end
section
theorem dX7_init_0 : decode cX7_init 0 = .ok (.aload_n 0, 1) := by decide +kernel
theorem dX7_init_1 : decode cX7_init 1 = .ok (.invokespecial 1, 3) := by decide +kernel
theorem dX7_init_4 : decode cX7_init 4 = .ok (.aload_n 0, 1) := by decide +kernel
theorem dX7_init_5 : decode cX7_init 5 = .ok (.sipush 256, 3) := by decide +kernel
theorem dX7_init_8 : decode cX7_init 8 = .ok (.newarray .int, 2) := by decide +kernel
theorem dX7_init_10 : decode cX7_init 10 = .ok (.putfield 7, 3) := by decide +kernel
theorem dX7_init_13 : decode cX7_init 13 = .ok (.aload_n 0, 1) := by decide +kernel
theorem dX7_init_14 : decode cX7_init 14 = .ok (.sipush 5120, 3) := by decide +kernel
theorem dX7_init_17 : decode cX7_init 17 = .ok (.newarray .int, 2) := by decide +kernel
theorem dX7_init_19 : decode cX7_init 19 = .ok (.putfield 13, 3) := by decide +kernel
theorem dX7_init_22 : decode cX7_init 22 = .ok (.aload_n 0, 1) := by decide +kernel
theorem dX7_init_23 : decode cX7_init 23 = .ok (.sipush 256, 3) := by decide +kernel
theorem dX7_init_26 : decode cX7_init 26 = .ok (.newarray .boolean, 2) := by decide +kernel
theorem dX7_init_28 : decode cX7_init 28 = .ok (.putfield 16, 3) := by decide +kernel
theorem dX7_init_31 : decode cX7_init 31 = .ok (.aload_n 0, 1) := by decide +kernel
theorem dX7_init_32 : decode cX7_init 32 = .ok (.bipush 13, 2) := by decide +kernel
theorem dX7_init_34 : decode cX7_init 34 = .ok (.putfield 20, 3) := by decide +kernel
theorem dX7_init_37 : decode cX7_init 37 = .ok (.aload_n 0, 1) := by decide +kernel
theorem dX7_init_38 : decode cX7_init 38 = .ok (.bipush 8, 2) := by decide +kernel
theorem dX7_init_40 : decode cX7_init 40 = .ok (.newarray .int, 2) := by decide +kernel
theorem dX7_init_42 : decode cX7_init 42 = .ok (.putfield 24, 3) := by decide +kernel
theorem dX7_init_45 : decode cX7_init 45 = .ok (.aload_n 0, 1) := by decide +kernel
theorem dX7_init_46 : decode cX7_init 46 = .ok (.sipush 240, 3) := by decide +kernel
theorem dX7_init_49 : decode cX7_init 49 = .ok (.newarray .int, 2) := by decide +kernel
theorem dX7_init_51 : decode cX7_init 51 = .ok (.putfield 27, 3) := by decide +kernel
theorem dX7_init_54 : decode cX7_init 54 = .ok (.aload_n 0, 1) := by decide +kernel
theorem dX7_init_55 : decode cX7_init 55 = .ok (.sipush 28800, 3) := by decide +kernel
theorem dX7_init_58 : decode cX7_init 58 = .ok (.newarray .int, 2) := by decide +kernel
theorem dX7_init_60 : decode cX7_init 60 = .ok (.putfield 30, 3) := by decide +kernel
theorem dX7_init_63 : decode cX7_init 63 = .ok (.aload_n 0, 1) := by decide +kernel
theorem dX7_init_64 : decode cX7_init 64 = .ok (.bipush 6, 2) := by decide +kernel
theorem dX7_init_66 : decode cX7_init 66 = .ok (.newarray .int, 2) := by decide +kernel
theorem dX7_init_68 : decode cX7_init 68 = .ok (.putfield 33, 3) := by decide +kernel
theorem dX7_init_71 : decode cX7_init 71 = .ok (.aload_n 0, 1) := by decide +kernel
theorem dX7_init_72 : decode cX7_init 72 = .ok (.bipush 6, 2) := by decide +kernel
theorem dX7_init_74 : decode cX7_init 74 = .ok (.newarray .int, 2) := by decide +kernel
theorem dX7_init_76 : decode cX7_init 76 = .ok (.putfield 36, 3) := by decide +kernel
theorem dX7_init_79 : decode cX7_init 79 = .ok (.aload_n 0, 1) := by decide +kernel
theorem dX7_init_80 : decode cX7_init 80 = .ok (.sipush 768, 3) := by decide +kernel
theorem dX7_init_83 : decode cX7_init 83 = .ok (.newarray .int, 2) := by decide +kernel
theorem dX7_init_85 : decode cX7_init 85 = .ok (.putfield 39, 3) := by decide +kernel
theorem dX7_init_88 : decode cX7_init 88 = .ok (.aload_n 0, 1) := by decide +kernel
theorem dX7_init_89 : decode cX7_init 89 = .ok (.bipush 6, 2) := by decide +kernel
theorem dX7_init_91 : decode cX7_init 91 = .ok (.newarray .int, 2) := by decide +kernel
theorem dX7_init_93 : decode cX7_init 93 = .ok (.putfield 42, 3) := by decide +kernel
theorem dX7_init_96 : decode cX7_init 96 = .ok (.aload_n 0, 1) := by decide +kernel
theorem dX7_init_97 : decode cX7_init 97 = .ok (.bipush 6, 2) := by decide +kernel
theorem dX7_init_99 : decode cX7_init 99 = .ok (.newarray .int, 2) := by decide +kernel
theorem dX7_init_101 : decode cX7_init 101 = .ok (.putfield 45, 3) := by decide +kernel
theorem dX7_init_104 : decode cX7_init 104 = .ok (.aload_n 0, 1) := by decide +kernel
theorem dX7_init_105 : decode cX7_init 105 = .ok (.bipush 6, 2) := by decide +kernel
theorem dX7_init_107 : decode cX7_init 107 = .ok (.newarray .int, 2) := by decide +kernel
theorem dX7_init_109 : decode cX7_init 109 = .ok (.putfield 48, 3) := by decide +kernel
theorem dX7_init_112 : decode cX7_init 112 = .ok (.aload_n 0, 1) := by decide +kernel
theorem dX7_init_113 : decode cX7_init 113 = .ok (.bipush 6, 2) := by decide +kernel
theorem dX7_init_115 : decode cX7_init 115 = .ok (.newarray .boolean, 2) := by decide +kernel
theorem dX7_init_117 : decode cX7_init 117 = .ok (.putfield 51, 3) := by decide +kernel
theorem dX7_init_120 : decode cX7_init 120 = .ok (.aload_n 0, 1) := by decide +kernel
theorem dX7_init_121 : decode cX7_init 121 = .ok (.sipush 3600, 3) := by decide +kernel
theorem dX7_init_124 : decode cX7_init 124 = .ok (.newarray .int, 2) := by decide +kernel
theorem dX7_init_126 : decode cX7_init 126 = .ok (.putfield 54, 3) := by decide +kernel
theorem dX7_init_129 : decode cX7_init 129 = .ok (.aload_n 0, 1) := by decide +kernel
theorem dX7_init_130 : decode cX7_init 130 = .ok (.sipush 6000, 3) := by decide +kernel
theorem dX7_init_133 : decode cX7_init 133 = .ok (.newarray .int, 2) := by decide +kernel
theorem dX7_init_135 : decode cX7_init 135 = .ok (.putfield 57, 3) := by decide +kernel
theorem dX7_init_138 : decode cX7_init 138 = .ok (.aload_n 0, 1) := by decide +kernel
theorem dX7_init_139 : decode cX7_init 139 = .ok (.sipush 150, 3) := by decide +kernel
theorem dX7_init_142 : decode cX7_init 142 = .ok (.newarray .int, 2) := by decide +kernel
theorem dX7_init_144 : decode cX7_init 144 = .ok (.putfield 60, 3) := by decide +kernel
theorem dX7_init_147 : decode cX7_init 147 = .ok (.aload_n 0, 1) := by decide +kernel
theorem dX7_init_148 : decode cX7_init 148 = .ok (.sipush 300, 3) := by decide +kernel
theorem dX7_init_151 : decode cX7_init 151 = .ok (.newarray .int, 2) := by decide +kernel
theorem dX7_init_153 : decode cX7_init 153 = .ok (.putfield 63, 3) := by decide +kernel
theorem dX7_init_156 : decode cX7_init 156 = .ok (.aload_n 0, 1) := by decide +kernel
theorem dX7_init_157 : decode cX7_init 157 = .ok (.bipush 40, 2) := by decide +kernel
theorem dX7_init_159 : decode cX7_init 159 = .ok (.newarray .int, 2) := by decide +kernel
theorem dX7_init_161 : decode cX7_init 161 = .ok (.putfield 66, 3) := by decide +kernel
theorem dX7_init_164 : decode cX7_init 164 = .ok (.iconst 0, 1) := by decide +kernel
theorem dX7_init_165 : decode cX7_init 165 = .ok (.istore_n 1, 1) := by decide +kernel
theorem dX7_init_166 : decode cX7_init 166 = .ok (.iload_n 1, 1) := by decide +kernel
theorem dX7_init_167 : decode cX7_init 167 = .ok (.sipush 256, 3) := by decide +kernel
theorem dX7_init_170 : decode cX7_init 170 = .ok (.if_icmp .ge 56, 3) := by decide +kernel
theorem dX7_init_173 : decode cX7_init 173 = .ok (.iload_n 1, 1) := by decide +kernel
theorem dX7_init_174 : decode cX7_init 174 = .ok (.bipush 65, 2) := by decide +kernel
theorem dX7_init_176 : decode cX7_init 176 = .ok (.if_icmp .lt 9, 3) := by decide +kernel
theorem dX7_init_179 : decode cX7_init 179 = .ok (.iload_n 1, 1) := by decide +kernel
theorem dX7_init_180 : decode cX7_init 180 = .ok (.bipush 90, 2) := by decide +kernel
theorem dX7_init_182 : decode cX7_init 182 = .ok (.if_icmp .le 15, 3) := by decide +kernel
theorem dX7_init_185 : decode cX7_init 185 = .ok (.iload_n 1, 1) := by decide +kernel
theorem dX7_init_186 : decode cX7_init 186 = .ok (.bipush 97, 2) := by decide +kernel
theorem dX7_init_188 : decode cX7_init 188 = .ok (.if_icmp .lt 13, 3) := by decide +kernel
theorem dX7_init_191 : decode cX7_init 191 = .ok (.iload_n 1, 1) := by decide +kernel
theorem dX7_init_192 : decode cX7_init 192 = .ok (.bipush 122, 2) := by decide +kernel
theorem dX7_init_194 : decode cX7_init 194 = .ok (.if_icmp .gt 7, 3) := by decide +kernel
theorem dX7_init_197 : decode cX7_init 197 = .ok (.iconst 1, 1) := by decide +kernel
theorem dX7_init_198 : decode cX7_init 198 = .ok (.goto 4, 3) := by decide +kernel
theorem dX7_init_201 : decode cX7_init 201 = .ok (.iconst 0, 1) := by decide +kernel
theorem dX7_init_202 : decode cX7_init 202 = .ok (.istore_n 2, 1) := by decide +kernel
theorem dX7_init_203 : decode cX7_init 203 = .ok (.aload_n 0, 1) := by decide +kernel
theorem dX7_init_204 : decode cX7_init 204 = .ok (.getfield 7, 3) := by decide +kernel
theorem dX7_init_207 : decode cX7_init 207 = .ok (.iload_n 1, 1) := by decide +kernel
theorem dX7_init_208 : decode cX7_init 208 = .ok (.iload_n 2, 1) := by decide +kernel
theorem dX7_init_209 : decode cX7_init 209 = .ok (.ifCond .eq 8, 3) := by decide +kernel
theorem dX7_init_212 : decode cX7_init 212 = .ok (.bipush 11, 2) := by decide +kernel
theorem dX7_init_214 : decode cX7_init 214 = .ok (.goto 5, 3) := by decide +kernel
theorem dX7_init_217 : decode cX7_init 217 = .ok (.bipush 12, 2) := by decide +kernel
theorem dX7_init_219 : decode cX7_init 219 = .ok (.iastore, 1) := by decide +kernel
theorem dX7_init_220 : decode cX7_init 220 = .ok (.iinc 1 1, 3) := by decide +kernel
theorem dX7_init_223 : decode cX7_init 223 = .ok (.goto (-57), 3) := by decide +kernel
theorem dX7_init_226 : decode cX7_init 226 = .ok (.aload_n 0, 1) := by decide +kernel
theorem dX7_init_227 : decode cX7_init 227 = .ok (.getfield 7, 3) := by decide +kernel
theorem dX7_init_230 : decode cX7_init 230 = .ok (.bipush 92, 2) := by decide +kernel
theorem dX7_init_232 : decode cX7_init 232 = .ok (.iconst 0, 1) := by decide +kernel
theorem dX7_init_233 : decode cX7_init 233 = .ok (.iastore, 1) := by decide +kernel
theorem dX7_init_234 : decode cX7_init 234 = .ok (.aload_n 0, 1) := by decide +kernel
theorem dX7_init_235 : decode cX7_init 235 = .ok (.getfield 7, 3) := by decide +kernel
theorem dX7_init_238 : decode cX7_init 238 = .ok (.bipush 123, 2) := by decide +kernel
theorem dX7_init_240 : decode cX7_init 240 = .ok (.iconst 1, 1) := by decide +kernel
theorem dX7_init_241 : decode cX7_init 241 = .ok (.iastore, 1) := by decide +kernel
theorem dX7_init_242 : decode cX7_init 242 = .ok (.aload_n 0, 1) := by decide +kernel
theorem dX7_init_243 : decode cX7_init 243 = .ok (.getfield 7, 3) := by decide +kernel
theorem dX7_init_246 : decode cX7_init 246 = .ok (.bipush 125, 2) := by decide +kernel
theorem dX7_init_248 : decode cX7_init 248 = .ok (.iconst 2, 1) := by decide +kernel
theorem dX7_init_249 : decode cX7_init 249 = .ok (.iastore, 1) := by decide +kernel
theorem dX7_init_250 : decode cX7_init 250 = .ok (.aload_n 0, 1) := by decide +kernel
theorem dX7_init_251 : decode cX7_init 251 = .ok (.getfield 7, 3) := by decide +kernel
theorem dX7_init_254 : decode cX7_init 254 = .ok (.bipush 13, 2) := by decide +kernel
theorem dX7_init_256 : decode cX7_init 256 = .ok (.iconst 5, 1) := by decide +kernel
theorem dX7_init_257 : decode cX7_init 257 = .ok (.iastore, 1) := by decide +kernel
theorem dX7_init_258 : decode cX7_init 258 = .ok (.aload_n 0, 1) := by decide +kernel
theorem dX7_init_259 : decode cX7_init 259 = .ok (.getfield 7, 3) := by decide +kernel
theorem dX7_init_262 : decode cX7_init 262 = .ok (.bipush 94, 2) := by decide +kernel
theorem dX7_init_264 : decode cX7_init 264 = .ok (.bipush 7, 2) := by decide +kernel
theorem dX7_init_266 : decode cX7_init 266 = .ok (.iastore, 1) := by decide +kernel
theorem dX7_init_267 : decode cX7_init 267 = .ok (.aload_n 0, 1) := by decide +kernel
theorem dX7_init_268 : decode cX7_init 268 = .ok (.getfield 7, 3) := by decide +kernel
theorem dX7_init_271 : decode cX7_init 271 = .ok (.iconst 0, 1) := by decide +kernel
theorem dX7_init_272 : decode cX7_init 272 = .ok (.bipush 9, 2) := by decide +kernel
theorem dX7_init_274 : decode cX7_init 274 = .ok (.iastore, 1) := by decide +kernel
theorem dX7_init_275 : decode cX7_init 275 = .ok (.aload_n 0, 1) := by decide +kernel
theorem dX7_init_276 : decode cX7_init 276 = .ok (.getfield 7, 3) := by decide +kernel
theorem dX7_init_279 : decode cX7_init 279 = .ok (.bipush 32, 2) := by decide +kernel
theorem dX7_init_281 : decode cX7_init 281 = .ok (.bipush 10, 2) := by decide +kernel
theorem dX7_init_283 : decode cX7_init 283 = .ok (.iastore, 1) := by decide +kernel
theorem dX7_init_284 : decode cX7_init 284 = .ok (.aload_n 0, 1) := by decide +kernel
theorem dX7_init_285 : decode cX7_init 285 = .ok (.getfield 7, 3) := by decide +kernel
theorem dX7_init_288 : decode cX7_init 288 = .ok (.bipush 126, 2) := by decide +kernel
theorem dX7_init_290 : decode cX7_init 290 = .ok (.bipush 13, 2) := by decide +kernel
theorem dX7_init_292 : decode cX7_init 292 = .ok (.iastore, 1) := by decide +kernel
theorem dX7_init_293 : decode cX7_init 293 = .ok (.aload_n 0, 1) := by decide +kernel
theorem dX7_init_294 : decode cX7_init 294 = .ok (.getfield 7, 3) := by decide +kernel
theorem dX7_init_297 : decode cX7_init 297 = .ok (.bipush 37, 2) := by decide +kernel
theorem dX7_init_299 : decode cX7_init 299 = .ok (.bipush 14, 2) := by decide +kernel
theorem dX7_init_301 : decode cX7_init 301 = .ok (.iastore, 1) := by decide +kernel
theorem dX7_init_302 : decode cX7_init 302 = .ok (.aload_n 0, 1) := by decide +kernel
theorem dX7_init_303 : decode cX7_init 303 = .ok (.getfield 7, 3) := by decide +kernel
theorem dX7_init_306 : decode cX7_init 306 = .ok (.bipush 127, 2) := by decide +kernel
theorem dX7_init_308 : decode cX7_init 308 = .ok (.bipush 15, 2) := by decide +kernel
theorem dX7_init_310 : decode cX7_init 310 = .ok (.iastore, 1) := by decide +kernel
theorem dX7_init_311 : decode cX7_init 311 = .ok (.aload_n 0, 1) := by decide +kernel
theorem dX7_init_312 : decode cX7_init 312 = .ok (.iconst 1, 1) := by decide +kernel
theorem dX7_init_313 : decode cX7_init 313 = .ok (.putfield 69, 3) := by decide +kernel
theorem dX7_init_316 : decode cX7_init 316 = .ok (.aload_n 0, 1) := by decide +kernel
theorem dX7_init_317 : decode cX7_init 317 = .ok (.getfield 57, 3) := by decide +kernel
theorem dX7_init_320 : decode cX7_init 320 = .ok (.iconst 0, 1) := by decide +kernel
theorem dX7_init_321 : decode cX7_init 321 = .ok (.bipush 112, 2) := by decide +kernel
theorem dX7_init_323 : decode cX7_init 323 = .ok (.iastore, 1) := by decide +kernel
theorem dX7_init_324 : decode cX7_init 324 = .ok (.aload_n 0, 1) := by decide +kernel
theorem dX7_init_325 : decode cX7_init 325 = .ok (.getfield 57, 3) := by decide +kernel
theorem dX7_init_328 : decode cX7_init 328 = .ok (.iconst 1, 1) := by decide +kernel
theorem dX7_init_329 : decode cX7_init 329 = .ok (.bipush 97, 2) := by decide +kernel
theorem dX7_init_331 : decode cX7_init 331 = .ok (.iastore, 1) := by decide +kernel
theorem dX7_init_332 : decode cX7_init 332 = .ok (.aload_n 0, 1) := by decide +kernel
theorem dX7_init_333 : decode cX7_init 333 = .ok (.getfield 57, 3) := by decide +kernel
theorem dX7_init_336 : decode cX7_init 336 = .ok (.iconst 2, 1) := by decide +kernel
theorem dX7_init_337 : decode cX7_init 337 = .ok (.bipush 114, 2) := by decide +kernel
theorem dX7_init_339 : decode cX7_init 339 = .ok (.iastore, 1) := by decide +kernel
theorem dX7_init_340 : decode cX7_init 340 = .ok (.aload_n 0, 1) := by decide +kernel
theorem dX7_init_341 : decode cX7_init 341 = .ok (.getfield 60, 3) := by decide +kernel
theorem dX7_init_344 : decode cX7_init 344 = .ok (.iconst 0, 1) := by decide +kernel
theorem dX7_init_345 : decode cX7_init 345 = .ok (.iconst 3, 1) := by decide +kernel
theorem dX7_init_346 : decode cX7_init 346 = .ok (.iastore, 1) := by decide +kernel
theorem dX7_init_347 : decode cX7_init 347 = .ok (.return_, 1) := by decide +kernel
theorem dX7_thrown_0 : decode cX7_thrown 0 = .ok (.aload_n 0, 1) := by decide +kernel
theorem dX7_thrown_1 : decode cX7_thrown 1 = .ok (.getfield 72, 3) := by decide +kernel
theorem dX7_thrown_4 : decode cX7_thrown 4 = .ok (.ireturn, 1) := by decide +kernel
theorem dX7_isSign_0 : decode cX7_isSign 0 = .ok (.iload_n 0, 1) := by decide +kernel
theorem dX7_isSign_1 : decode cX7_isSign 1 = .ok (.ifCond .lt 14, 3) := by decide +kernel
theorem dX7_isSign_4 : decode cX7_isSign 4 = .ok (.iload_n 0, 1) := by decide +kernel
theorem dX7_isSign_5 : decode cX7_isSign 5 = .ok (.sipush 256, 3) := by decide +kernel
theorem dX7_isSign_8 : decode cX7_isSign 8 = .ok (.if_icmp .ge 7, 3) := by decide +kernel
theorem dX7_isSign_11 : decode cX7_isSign 11 = .ok (.iconst 1, 1) := by decide +kernel
theorem dX7_isSign_12 : decode cX7_isSign 12 = .ok (.goto 4, 3) := by decide +kernel
theorem dX7_isSign_15 : decode cX7_isSign 15 = .ok (.iconst 0, 1) := by decide +kernel
theorem dX7_isSign_16 : decode cX7_isSign 16 = .ok (.ireturn, 1) := by decide +kernel
theorem dX7_category_0 : decode cX7_category 0 = .ok (.aload_n 0, 1) := by decide +kernel
theorem dX7_category_1 : decode cX7_category 1 = .ok (.iconst 0, 1) := by decide +kernel
theorem dX7_category_2 : decode cX7_category 2 = .ok (.putfield 72, 3) := by decide +kernel
theorem dX7_category_5 : decode cX7_category 5 = .ok (.iload_n 1, 1) := by decide +kernel
theorem dX7_category_6 : decode cX7_category 6 = .ok (.invokestatic 75, 3) := by decide +kernel
theorem dX7_category_9 : decode cX7_category 9 = .ok (.ifCond .eq 13, 3) := by decide +kernel
theorem dX7_category_12 : decode cX7_category 12 = .ok (.iload_n 2, 1) := by decide +kernel
theorem dX7_category_13 : decode cX7_category 13 = .ok (.ifCond .lt 9, 3) := by decide +kernel
theorem dX7_category_16 : decode cX7_category 16 = .ok (.iload_n 2, 1) := by decide +kernel
theorem dX7_category_17 : decode cX7_category 17 = .ok (.bipush 15, 2) := by decide +kernel
theorem dX7_category_19 : decode cX7_category 19 = .ok (.if_icmp .le 6, 3) := by decide +kernel
theorem dX7_category_22 : decode cX7_category 22 = .ok (.bipush (-2), 2) := by decide +kernel
theorem dX7_category_24 : decode cX7_category 24 = .ok (.ireturn, 1) := by decide +kernel
theorem dX7_category_25 : decode cX7_category 25 = .ok (.aload_n 0, 1) := by decide +kernel
theorem dX7_category_26 : decode cX7_category 26 = .ok (.getfield 7, 3) := by decide +kernel
theorem dX7_category_29 : decode cX7_category 29 = .ok (.iload_n 1, 1) := by decide +kernel
theorem dX7_category_30 : decode cX7_category 30 = .ok (.iload_n 2, 1) := by decide +kernel
theorem dX7_category_31 : decode cX7_category 31 = .ok (.iastore, 1) := by decide +kernel
theorem dX7_category_32 : decode cX7_category 32 = .ok (.iconst 0, 1) := by decide +kernel
theorem dX7_category_33 : decode cX7_category 33 = .ok (.istore 4, 2) := by decide +kernel
theorem dX7_category_35 : decode cX7_category 35 = .ok (.iload 4, 2) := by decide +kernel
theorem dX7_category_37 : decode cX7_category 37 = .ok (.aload_n 0, 1) := by decide +kernel
theorem dX7_category_38 : decode cX7_category 38 = .ok (.getfield 79, 3) := by decide +kernel
theorem dX7_category_41 : decode cX7_category 41 = .ok (.if_icmp .ge 27, 3) := by decide +kernel
theorem dX7_category_44 : decode cX7_category 44 = .ok (.iload_n 3, 1) := by decide +kernel
theorem dX7_category_45 : decode cX7_category 45 = .ok (.ifCond .eq 23, 3) := by decide +kernel
theorem dX7_category_48 : decode cX7_category 48 = .ok (.aload_n 0, 1) := by decide +kernel
theorem dX7_category_49 : decode cX7_category 49 = .ok (.getfield 13, 3) := by decide +kernel
theorem dX7_category_52 : decode cX7_category 52 = .ok (.sipush 256, 3) := by decide +kernel
theorem dX7_category_55 : decode cX7_category 55 = .ok (.iload 4, 2) := by decide +kernel
theorem dX7_category_57 : decode cX7_category 57 = .ok (.imul, 1) := by decide +kernel
theorem dX7_category_58 : decode cX7_category 58 = .ok (.iload_n 1, 1) := by decide +kernel
theorem dX7_category_59 : decode cX7_category 59 = .ok (.iadd, 1) := by decide +kernel
theorem dX7_category_60 : decode cX7_category 60 = .ok (.iload_n 2, 1) := by decide +kernel
theorem dX7_category_61 : decode cX7_category 61 = .ok (.iastore, 1) := by decide +kernel
theorem dX7_category_62 : decode cX7_category 62 = .ok (.iinc 4 1, 3) := by decide +kernel
theorem dX7_category_65 : decode cX7_category 65 = .ok (.goto (-30), 3) := by decide +kernel
theorem dX7_category_68 : decode cX7_category 68 = .ok (.iconst 1, 1) := by decide +kernel
theorem dX7_category_69 : decode cX7_category 69 = .ok (.ireturn, 1) := by decide +kernel
theorem dX7_group_0 : decode cX7_group 0 = .ok (.aload_n 0, 1) := by decide +kernel
theorem dX7_group_1 : decode cX7_group 1 = .ok (.iconst 0, 1) := by decide +kernel
theorem dX7_group_2 : decode cX7_group 2 = .ok (.putfield 72, 3) := by decide +kernel
theorem dX7_group_5 : decode cX7_group 5 = .ok (.iload_n 1, 1) := by decide +kernel
theorem dX7_group_6 : decode cX7_group 6 = .ok (.ifCond .ne 13, 3) := by decide +kernel
theorem dX7_group_9 : decode cX7_group 9 = .ok (.aload_n 0, 1) := by decide +kernel
theorem dX7_group_10 : decode cX7_group 10 = .ok (.getfield 79, 3) := by decide +kernel
theorem dX7_group_13 : decode cX7_group 13 = .ok (.ifCond .ne 6, 3) := by decide +kernel
theorem dX7_group_16 : decode cX7_group 16 = .ok (.bipush (-3), 2) := by decide +kernel
theorem dX7_group_18 : decode cX7_group 18 = .ok (.ireturn, 1) := by decide +kernel
theorem dX7_group_19 : decode cX7_group 19 = .ok (.iload_n 1, 1) := by decide +kernel
theorem dX7_group_20 : decode cX7_group 20 = .ok (.ifCond .eq 15, 3) := by decide +kernel
theorem dX7_group_23 : decode cX7_group 23 = .ok (.aload_n 0, 1) := by decide +kernel
theorem dX7_group_24 : decode cX7_group 24 = .ok (.getfield 79, 3) := by decide +kernel
theorem dX7_group_27 : decode cX7_group 27 = .ok (.bipush 20, 2) := by decide +kernel
theorem dX7_group_29 : decode cX7_group 29 = .ok (.if_icmp .ne 6, 3) := by decide +kernel
theorem dX7_group_32 : decode cX7_group 32 = .ok (.bipush (-4), 2) := by decide +kernel
theorem dX7_group_34 : decode cX7_group 34 = .ok (.ireturn, 1) := by decide +kernel
theorem dX7_group_35 : decode cX7_group 35 = .ok (.aload_n 0, 1) := by decide +kernel
theorem dX7_group_36 : decode cX7_group 36 = .ok (.iload_n 1, 1) := by decide +kernel
theorem dX7_group_37 : decode cX7_group 37 = .ok (.ifCond .eq 10, 3) := by decide +kernel
theorem dX7_group_40 : decode cX7_group 40 = .ok (.aload_n 0, 1) := by decide +kernel
theorem dX7_group_41 : decode cX7_group 41 = .ok (.getfield 79, 3) := by decide +kernel
theorem dX7_group_44 : decode cX7_group 44 = .ok (.goto 9, 3) := by decide +kernel
theorem dX7_group_47 : decode cX7_group 47 = .ok (.aload_n 0, 1) := by decide +kernel
theorem dX7_group_48 : decode cX7_group 48 = .ok (.getfield 79, 3) := by decide +kernel
theorem dX7_group_51 : decode cX7_group 51 = .ok (.iconst 1, 1) := by decide +kernel
theorem dX7_group_52 : decode cX7_group 52 = .ok (.isub, 1) := by decide +kernel
theorem dX7_group_53 : decode cX7_group 53 = .ok (.putfield 79, 3) := by decide +kernel
theorem dX7_group_56 : decode cX7_group 56 = .ok (.iconst 0, 1) := by decide +kernel
theorem dX7_group_57 : decode cX7_group 57 = .ok (.istore_n 2, 1) := by decide +kernel
theorem dX7_group_58 : decode cX7_group 58 = .ok (.iload_n 2, 1) := by decide +kernel
theorem dX7_group_59 : decode cX7_group 59 = .ok (.sipush 256, 3) := by decide +kernel
theorem dX7_group_62 : decode cX7_group 62 = .ok (.if_icmp .ge 86, 3) := by decide +kernel
theorem dX7_group_65 : decode cX7_group 65 = .ok (.aload_n 0, 1) := by decide +kernel
theorem dX7_group_66 : decode cX7_group 66 = .ok (.getfield 13, 3) := by decide +kernel
theorem dX7_group_69 : decode cX7_group 69 = .ok (.sipush 256, 3) := by decide +kernel
theorem dX7_group_72 : decode cX7_group 72 = .ok (.aload_n 0, 1) := by decide +kernel
theorem dX7_group_73 : decode cX7_group 73 = .ok (.getfield 79, 3) := by decide +kernel
theorem dX7_group_76 : decode cX7_group 76 = .ok (.imul, 1) := by decide +kernel
theorem dX7_group_77 : decode cX7_group 77 = .ok (.iload_n 2, 1) := by decide +kernel
theorem dX7_group_78 : decode cX7_group 78 = .ok (.iadd, 1) := by decide +kernel
theorem dX7_group_79 : decode cX7_group 79 = .ok (.iload_n 1, 1) := by decide +kernel
theorem dX7_group_80 : decode cX7_group 80 = .ok (.ifCond .eq 12, 3) := by decide +kernel
theorem dX7_group_83 : decode cX7_group 83 = .ok (.aload_n 0, 1) := by decide +kernel
theorem dX7_group_84 : decode cX7_group 84 = .ok (.getfield 7, 3) := by decide +kernel
theorem dX7_group_87 : decode cX7_group 87 = .ok (.iload_n 2, 1) := by decide +kernel
theorem dX7_group_88 : decode cX7_group 88 = .ok (.iaload, 1) := by decide +kernel
theorem dX7_group_89 : decode cX7_group 89 = .ok (.goto 18, 3) := by decide +kernel
theorem dX7_group_92 : decode cX7_group 92 = .ok (.aload_n 0, 1) := by decide +kernel
theorem dX7_group_93 : decode cX7_group 93 = .ok (.getfield 13, 3) := by decide +kernel
theorem dX7_group_96 : decode cX7_group 96 = .ok (.sipush 256, 3) := by decide +kernel
theorem dX7_group_99 : decode cX7_group 99 = .ok (.aload_n 0, 1) := by decide +kernel
theorem dX7_group_100 : decode cX7_group 100 = .ok (.getfield 79, 3) := by decide +kernel
theorem dX7_group_103 : decode cX7_group 103 = .ok (.imul, 1) := by decide +kernel
theorem dX7_group_104 : decode cX7_group 104 = .ok (.iload_n 2, 1) := by decide +kernel
theorem dX7_group_105 : decode cX7_group 105 = .ok (.iadd, 1) := by decide +kernel
theorem dX7_group_106 : decode cX7_group 106 = .ok (.iaload, 1) := by decide +kernel
theorem dX7_group_107 : decode cX7_group 107 = .ok (.iastore, 1) := by decide +kernel
theorem dX7_group_108 : decode cX7_group 108 = .ok (.aload_n 0, 1) := by decide +kernel
theorem dX7_group_109 : decode cX7_group 109 = .ok (.getfield 7, 3) := by decide +kernel
theorem dX7_group_112 : decode cX7_group 112 = .ok (.iload_n 2, 1) := by decide +kernel
theorem dX7_group_113 : decode cX7_group 113 = .ok (.iload_n 1, 1) := by decide +kernel
theorem dX7_group_114 : decode cX7_group 114 = .ok (.ifCond .eq 12, 3) := by decide +kernel
theorem dX7_group_117 : decode cX7_group 117 = .ok (.aload_n 0, 1) := by decide +kernel
theorem dX7_group_118 : decode cX7_group 118 = .ok (.getfield 7, 3) := by decide +kernel
theorem dX7_group_121 : decode cX7_group 121 = .ok (.iload_n 2, 1) := by decide +kernel
theorem dX7_group_122 : decode cX7_group 122 = .ok (.iaload, 1) := by decide +kernel
theorem dX7_group_123 : decode cX7_group 123 = .ok (.goto 18, 3) := by decide +kernel
theorem dX7_group_126 : decode cX7_group 126 = .ok (.aload_n 0, 1) := by decide +kernel
theorem dX7_group_127 : decode cX7_group 127 = .ok (.getfield 13, 3) := by decide +kernel
theorem dX7_group_130 : decode cX7_group 130 = .ok (.sipush 256, 3) := by decide +kernel
theorem dX7_group_133 : decode cX7_group 133 = .ok (.aload_n 0, 1) := by decide +kernel
theorem dX7_group_134 : decode cX7_group 134 = .ok (.getfield 79, 3) := by decide +kernel
theorem dX7_group_137 : decode cX7_group 137 = .ok (.imul, 1) := by decide +kernel
theorem dX7_group_138 : decode cX7_group 138 = .ok (.iload_n 2, 1) := by decide +kernel
theorem dX7_group_139 : decode cX7_group 139 = .ok (.iadd, 1) := by decide +kernel
theorem dX7_group_140 : decode cX7_group 140 = .ok (.iaload, 1) := by decide +kernel
theorem dX7_group_141 : decode cX7_group 141 = .ok (.iastore, 1) := by decide +kernel
theorem dX7_group_142 : decode cX7_group 142 = .ok (.iinc 2 1, 3) := by decide +kernel
theorem dX7_group_145 : decode cX7_group 145 = .ok (.goto (-87), 3) := by decide +kernel
theorem dX7_group_148 : decode cX7_group 148 = .ok (.aload_n 0, 1) := by decide +kernel
theorem dX7_group_149 : decode cX7_group 149 = .ok (.iload_n 1, 1) := by decide +kernel
theorem dX7_group_150 : decode cX7_group 150 = .ok (.ifCond .eq 12, 3) := by decide +kernel
theorem dX7_group_153 : decode cX7_group 153 = .ok (.aload_n 0, 1) := by decide +kernel
theorem dX7_group_154 : decode cX7_group 154 = .ok (.getfield 79, 3) := by decide +kernel
theorem dX7_group_157 : decode cX7_group 157 = .ok (.iconst 1, 1) := by decide +kernel
theorem dX7_group_158 : decode cX7_group 158 = .ok (.iadd, 1) := by decide +kernel
theorem dX7_group_159 : decode cX7_group 159 = .ok (.goto 7, 3) := by decide +kernel
theorem dX7_group_162 : decode cX7_group 162 = .ok (.aload_n 0, 1) := by decide +kernel
theorem dX7_group_163 : decode cX7_group 163 = .ok (.getfield 79, 3) := by decide +kernel
theorem dX7_group_166 : decode cX7_group 166 = .ok (.putfield 79, 3) := by decide +kernel
theorem dX7_group_169 : decode cX7_group 169 = .ok (.aload_n 0, 1) := by decide +kernel
theorem dX7_group_170 : decode cX7_group 170 = .ok (.getfield 79, 3) := by decide +kernel
theorem dX7_group_173 : decode cX7_group 173 = .ok (.ireturn, 1) := by decide +kernel
theorem dX7_endSign_0 : decode cX7_endSign 0 = .ok (.aload_n 0, 1) := by decide +kernel
theorem dX7_endSign_1 : decode cX7_endSign 1 = .ok (.iconst 0, 1) := by decide +kernel
theorem dX7_endSign_2 : decode cX7_endSign 2 = .ok (.putfield 72, 3) := by decide +kernel
theorem dX7_endSign_5 : decode cX7_endSign 5 = .ok (.iload_n 1, 1) := by decide +kernel
theorem dX7_endSign_6 : decode cX7_endSign 6 = .ok (.iconst (-1), 1) := by decide +kernel
theorem dX7_endSign_7 : decode cX7_endSign 7 = .ok (.if_icmp .eq 13, 3) := by decide +kernel
theorem dX7_endSign_10 : decode cX7_endSign 10 = .ok (.iload_n 1, 1) := by decide +kernel
theorem dX7_endSign_11 : decode cX7_endSign 11 = .ok (.invokestatic 75, 3) := by decide +kernel
theorem dX7_endSign_14 : decode cX7_endSign 14 = .ok (.ifCond .ne 6, 3) := by decide +kernel
theorem dX7_endSign_17 : decode cX7_endSign 17 = .ok (.bipush (-2), 2) := by decide +kernel
theorem dX7_endSign_19 : decode cX7_endSign 19 = .ok (.ireturn, 1) := by decide +kernel
theorem dX7_endSign_20 : decode cX7_endSign 20 = .ok (.aload_n 0, 1) := by decide +kernel
theorem dX7_endSign_21 : decode cX7_endSign 21 = .ok (.iload_n 1, 1) := by decide +kernel
theorem dX7_endSign_22 : decode cX7_endSign 22 = .ok (.putfield 20, 3) := by decide +kernel
theorem dX7_endSign_25 : decode cX7_endSign 25 = .ok (.iconst 1, 1) := by decide +kernel
theorem dX7_endSign_26 : decode cX7_endSign 26 = .ok (.ireturn, 1) := by decide +kernel
theorem dX7_meaning_0 : decode cX7_meaning 0 = .ok (.aload_n 0, 1) := by decide +kernel
theorem dX7_meaning_1 : decode cX7_meaning 1 = .ok (.iconst 0, 1) := by decide +kernel
theorem dX7_meaning_2 : decode cX7_meaning 2 = .ok (.putfield 72, 3) := by decide +kernel
theorem dX7_meaning_5 : decode cX7_meaning 5 = .ok (.iload_n 1, 1) := by decide +kernel
theorem dX7_meaning_6 : decode cX7_meaning 6 = .ok (.invokestatic 75, 3) := by decide +kernel
theorem dX7_meaning_9 : decode cX7_meaning 9 = .ok (.ifCond .ne 6, 3) := by decide +kernel
theorem dX7_meaning_12 : decode cX7_meaning 12 = .ok (.bipush (-2), 2) := by decide +kernel
theorem dX7_meaning_14 : decode cX7_meaning 14 = .ok (.ireturn, 1) := by decide +kernel
theorem dX7_meaning_15 : decode cX7_meaning 15 = .ok (.aload_n 0, 1) := by decide +kernel
theorem dX7_meaning_16 : decode cX7_meaning 16 = .ok (.getfield 16, 3) := by decide +kernel
theorem dX7_meaning_19 : decode cX7_meaning 19 = .ok (.iload_n 1, 1) := by decide +kernel
theorem dX7_meaning_20 : decode cX7_meaning 20 = .ok (.iload_n 2, 1) := by decide +kernel
theorem dX7_meaning_21 : decode cX7_meaning 21 = .ok (.bastore, 1) := by decide +kernel
theorem dX7_meaning_22 : decode cX7_meaning 22 = .ok (.iconst 1, 1) := by decide +kernel
theorem dX7_meaning_23 : decode cX7_meaning 23 = .ok (.ireturn, 1) := by decide +kernel
theorem dX7_isFile_0 : decode cX7_isFile 0 = .ok (.iload_n 1, 1) := by decide +kernel
theorem dX7_isFile_1 : decode cX7_isFile 1 = .ok (.ifCond .lt 15, 3) := by decide +kernel
theorem dX7_isFile_4 : decode cX7_isFile 4 = .ok (.iload_n 1, 1) := by decide +kernel
theorem dX7_isFile_5 : decode cX7_isFile 5 = .ok (.aload_n 0, 1) := by decide +kernel
theorem dX7_isFile_6 : decode cX7_isFile 6 = .ok (.getfield 82, 3) := by decide +kernel
theorem dX7_isFile_9 : decode cX7_isFile 9 = .ok (.if_icmp .ge 7, 3) := by decide +kernel
theorem dX7_isFile_12 : decode cX7_isFile 12 = .ok (.iconst 1, 1) := by decide +kernel
theorem dX7_isFile_13 : decode cX7_isFile 13 = .ok (.goto 4, 3) := by decide +kernel
theorem dX7_isFile_16 : decode cX7_isFile 16 = .ok (.iconst 0, 1) := by decide +kernel
theorem dX7_isFile_17 : decode cX7_isFile 17 = .ok (.ireturn, 1) := by decide +kernel
theorem dX7_file_0 : decode cX7_file 0 = .ok (.aload_n 0, 1) := by decide +kernel
theorem dX7_file_1 : decode cX7_file 1 = .ok (.iconst 0, 1) := by decide +kernel
theorem dX7_file_2 : decode cX7_file 2 = .ok (.putfield 72, 3) := by decide +kernel
theorem dX7_file_5 : decode cX7_file 5 = .ok (.aload_n 0, 1) := by decide +kernel
theorem dX7_file_6 : decode cX7_file 6 = .ok (.getfield 82, 3) := by decide +kernel
theorem dX7_file_9 : decode cX7_file 9 = .ok (.bipush 8, 2) := by decide +kernel
theorem dX7_file_11 : decode cX7_file 11 = .ok (.if_icmp .ne 6, 3) := by decide +kernel
theorem dX7_file_14 : decode cX7_file 14 = .ok (.bipush (-4), 2) := by decide +kernel
theorem dX7_file_16 : decode cX7_file 16 = .ok (.ireturn, 1) := by decide +kernel
theorem dX7_file_17 : decode cX7_file 17 = .ok (.aload_n 0, 1) := by decide +kernel
theorem dX7_file_18 : decode cX7_file 18 = .ok (.dup, 1) := by decide +kernel
theorem dX7_file_19 : decode cX7_file 19 = .ok (.getfield 82, 3) := by decide +kernel
theorem dX7_file_22 : decode cX7_file 22 = .ok (.iconst 1, 1) := by decide +kernel
theorem dX7_file_23 : decode cX7_file 23 = .ok (.iadd, 1) := by decide +kernel
theorem dX7_file_24 : decode cX7_file 24 = .ok (.putfield 82, 3) := by decide +kernel
theorem dX7_file_27 : decode cX7_file 27 = .ok (.aload_n 0, 1) := by decide +kernel
theorem dX7_file_28 : decode cX7_file 28 = .ok (.getfield 82, 3) := by decide +kernel
theorem dX7_file_31 : decode cX7_file 31 = .ok (.iconst 1, 1) := by decide +kernel
theorem dX7_file_32 : decode cX7_file 32 = .ok (.isub, 1) := by decide +kernel
theorem dX7_file_33 : decode cX7_file 33 = .ok (.ireturn, 1) := by decide +kernel
theorem dX7_line_0 : decode cX7_line 0 = .ok (.aload_n 0, 1) := by decide +kernel
theorem dX7_line_1 : decode cX7_line 1 = .ok (.iconst 0, 1) := by decide +kernel
theorem dX7_line_2 : decode cX7_line 2 = .ok (.putfield 72, 3) := by decide +kernel
theorem dX7_line_5 : decode cX7_line 5 = .ok (.aload_n 0, 1) := by decide +kernel
theorem dX7_line_6 : decode cX7_line 6 = .ok (.iload_n 1, 1) := by decide +kernel
theorem dX7_line_7 : decode cX7_line 7 = .ok (.invokevirtual 85, 3) := by decide +kernel
theorem dX7_line_10 : decode cX7_line 10 = .ok (.ifCond .ne 5, 3) := by decide +kernel
theorem dX7_line_13 : decode cX7_line 13 = .ok (.iconst (-1), 1) := by decide +kernel
theorem dX7_line_14 : decode cX7_line 14 = .ok (.ireturn, 1) := by decide +kernel
theorem dX7_line_15 : decode cX7_line 15 = .ok (.aload_n 0, 1) := by decide +kernel
theorem dX7_line_16 : decode cX7_line 16 = .ok (.getfield 24, 3) := by decide +kernel
theorem dX7_line_19 : decode cX7_line 19 = .ok (.iload_n 1, 1) := by decide +kernel
theorem dX7_line_20 : decode cX7_line 20 = .ok (.iaload, 1) := by decide +kernel
theorem dX7_line_21 : decode cX7_line 21 = .ok (.bipush 30, 2) := by decide +kernel
theorem dX7_line_23 : decode cX7_line 23 = .ok (.if_icmp .ne 6, 3) := by decide +kernel
theorem dX7_line_26 : decode cX7_line 26 = .ok (.bipush (-4), 2) := by decide +kernel
theorem dX7_line_28 : decode cX7_line 28 = .ok (.ireturn, 1) := by decide +kernel
theorem dX7_line_29 : decode cX7_line 29 = .ok (.aload_n 0, 1) := by decide +kernel
theorem dX7_line_30 : decode cX7_line 30 = .ok (.getfield 24, 3) := by decide +kernel
theorem dX7_line_33 : decode cX7_line 33 = .ok (.iload_n 1, 1) := by decide +kernel
theorem dX7_line_34 : decode cX7_line 34 = .ok (.dup2, 1) := by decide +kernel
theorem dX7_line_35 : decode cX7_line 35 = .ok (.iaload, 1) := by decide +kernel
theorem dX7_line_36 : decode cX7_line 36 = .ok (.iconst 1, 1) := by decide +kernel
theorem dX7_line_37 : decode cX7_line 37 = .ok (.iadd, 1) := by decide +kernel
theorem dX7_line_38 : decode cX7_line 38 = .ok (.iastore, 1) := by decide +kernel
theorem dX7_line_39 : decode cX7_line 39 = .ok (.aload_n 0, 1) := by decide +kernel
theorem dX7_line_40 : decode cX7_line 40 = .ok (.getfield 24, 3) := by decide +kernel
theorem dX7_line_43 : decode cX7_line 43 = .ok (.iload_n 1, 1) := by decide +kernel
theorem dX7_line_44 : decode cX7_line 44 = .ok (.iaload, 1) := by decide +kernel
theorem dX7_line_45 : decode cX7_line 45 = .ok (.ireturn, 1) := by decide +kernel
theorem dX7_add_0 : decode cX7_add 0 = .ok (.aload_n 0, 1) := by decide +kernel
theorem dX7_add_1 : decode cX7_add 1 = .ok (.iconst 0, 1) := by decide +kernel
theorem dX7_add_2 : decode cX7_add 2 = .ok (.putfield 72, 3) := by decide +kernel
theorem dX7_add_5 : decode cX7_add 5 = .ok (.aload_n 0, 1) := by decide +kernel
theorem dX7_add_6 : decode cX7_add 6 = .ok (.iload_n 1, 1) := by decide +kernel
theorem dX7_add_7 : decode cX7_add 7 = .ok (.invokevirtual 85, 3) := by decide +kernel
theorem dX7_add_10 : decode cX7_add 10 = .ok (.ifCond .ne 5, 3) := by decide +kernel
theorem dX7_add_13 : decode cX7_add 13 = .ok (.iconst (-1), 1) := by decide +kernel
theorem dX7_add_14 : decode cX7_add 14 = .ok (.ireturn, 1) := by decide +kernel
theorem dX7_add_15 : decode cX7_add 15 = .ok (.iload 4, 2) := by decide +kernel
theorem dX7_add_17 : decode cX7_add 17 = .ok (.iconst 1, 1) := by decide +kernel
theorem dX7_add_18 : decode cX7_add 18 = .ok (.if_icmp .lt 10, 3) := by decide +kernel
theorem dX7_add_21 : decode cX7_add 21 = .ok (.iload 4, 2) := by decide +kernel
theorem dX7_add_23 : decode cX7_add 23 = .ok (.bipush 8, 2) := by decide +kernel
theorem dX7_add_25 : decode cX7_add 25 = .ok (.if_icmp .le 6, 3) := by decide +kernel
theorem dX7_add_28 : decode cX7_add 28 = .ok (.bipush (-2), 2) := by decide +kernel
theorem dX7_add_30 : decode cX7_add 30 = .ok (.ireturn, 1) := by decide +kernel
theorem dX7_add_31 : decode cX7_add 31 = .ok (.aload_n 0, 1) := by decide +kernel
theorem dX7_add_32 : decode cX7_add 32 = .ok (.getfield 24, 3) := by decide +kernel
theorem dX7_add_35 : decode cX7_add 35 = .ok (.iload_n 1, 1) := by decide +kernel
theorem dX7_add_36 : decode cX7_add 36 = .ok (.iaload, 1) := by decide +kernel
theorem dX7_add_37 : decode cX7_add 37 = .ok (.ifCond .ne 6, 3) := by decide +kernel
theorem dX7_add_40 : decode cX7_add 40 = .ok (.bipush (-3), 2) := by decide +kernel
theorem dX7_add_42 : decode cX7_add 42 = .ok (.ireturn, 1) := by decide +kernel
theorem dX7_add_43 : decode cX7_add 43 = .ok (.bipush 30, 2) := by decide +kernel
theorem dX7_add_45 : decode cX7_add 45 = .ok (.iload_n 1, 1) := by decide +kernel
theorem dX7_add_46 : decode cX7_add 46 = .ok (.imul, 1) := by decide +kernel
theorem dX7_add_47 : decode cX7_add 47 = .ok (.aload_n 0, 1) := by decide +kernel
theorem dX7_add_48 : decode cX7_add 48 = .ok (.getfield 24, 3) := by decide +kernel
theorem dX7_add_51 : decode cX7_add 51 = .ok (.iload_n 1, 1) := by decide +kernel
theorem dX7_add_52 : decode cX7_add 52 = .ok (.iaload, 1) := by decide +kernel
theorem dX7_add_53 : decode cX7_add 53 = .ok (.iadd, 1) := by decide +kernel
theorem dX7_add_54 : decode cX7_add 54 = .ok (.iconst 1, 1) := by decide +kernel
theorem dX7_add_55 : decode cX7_add 55 = .ok (.isub, 1) := by decide +kernel
theorem dX7_add_56 : decode cX7_add 56 = .ok (.istore 5, 2) := by decide +kernel
theorem dX7_add_58 : decode cX7_add 58 = .ok (.aload_n 0, 1) := by decide +kernel
theorem dX7_add_59 : decode cX7_add 59 = .ok (.getfield 27, 3) := by decide +kernel
theorem dX7_add_62 : decode cX7_add 62 = .ok (.iload 5, 2) := by decide +kernel
theorem dX7_add_64 : decode cX7_add 64 = .ok (.iaload, 1) := by decide +kernel
theorem dX7_add_65 : decode cX7_add 65 = .ok (.iload 4, 2) := by decide +kernel
theorem dX7_add_67 : decode cX7_add 67 = .ok (.iadd, 1) := by decide +kernel
theorem dX7_add_68 : decode cX7_add 68 = .ok (.bipush 120, 2) := by decide +kernel
theorem dX7_add_70 : decode cX7_add 70 = .ok (.if_icmp .le 6, 3) := by decide +kernel
theorem dX7_add_73 : decode cX7_add 73 = .ok (.bipush (-4), 2) := by decide +kernel
theorem dX7_add_75 : decode cX7_add 75 = .ok (.ireturn, 1) := by decide +kernel
theorem dX7_add_76 : decode cX7_add 76 = .ok (.iload 4, 2) := by decide +kernel
theorem dX7_add_78 : decode cX7_add 78 = .ok (.iconst 1, 1) := by decide +kernel
theorem dX7_add_79 : decode cX7_add 79 = .ok (.isub, 1) := by decide +kernel
theorem dX7_add_80 : decode cX7_add 80 = .ok (.istore 6, 2) := by decide +kernel
theorem dX7_add_82 : decode cX7_add 82 = .ok (.iload 6, 2) := by decide +kernel
theorem dX7_add_84 : decode cX7_add 84 = .ok (.ifCond .lt 50, 3) := by decide +kernel
theorem dX7_add_87 : decode cX7_add 87 = .ok (.aload_n 0, 1) := by decide +kernel
theorem dX7_add_88 : decode cX7_add 88 = .ok (.getfield 30, 3) := by decide +kernel
theorem dX7_add_91 : decode cX7_add 91 = .ok (.bipush 120, 2) := by decide +kernel
theorem dX7_add_93 : decode cX7_add 93 = .ok (.iload 5, 2) := by decide +kernel
theorem dX7_add_95 : decode cX7_add 95 = .ok (.imul, 1) := by decide +kernel
theorem dX7_add_96 : decode cX7_add 96 = .ok (.aload_n 0, 1) := by decide +kernel
theorem dX7_add_97 : decode cX7_add 97 = .ok (.getfield 27, 3) := by decide +kernel
theorem dX7_add_100 : decode cX7_add 100 = .ok (.iload 5, 2) := by decide +kernel
theorem dX7_add_102 : decode cX7_add 102 = .ok (.iaload, 1) := by decide +kernel
theorem dX7_add_103 : decode cX7_add 103 = .ok (.iadd, 1) := by decide +kernel
theorem dX7_add_104 : decode cX7_add 104 = .ok (.lload_n 2, 1) := by decide +kernel
theorem dX7_add_105 : decode cX7_add 105 = .ok (.bipush 8, 2) := by decide +kernel
theorem dX7_add_107 : decode cX7_add 107 = .ok (.iload 6, 2) := by decide +kernel
theorem dX7_add_109 : decode cX7_add 109 = .ok (.imul, 1) := by decide +kernel
theorem dX7_add_110 : decode cX7_add 110 = .ok (.lshr, 1) := by decide +kernel
theorem dX7_add_111 : decode cX7_add 111 = .ok (.ldc2_w 88, 3) := by decide +kernel
theorem dX7_add_114 : decode cX7_add 114 = .ok (.land, 1) := by decide +kernel
theorem dX7_add_115 : decode cX7_add 115 = .ok (.l2i, 1) := by decide +kernel
theorem dX7_add_116 : decode cX7_add 116 = .ok (.iastore, 1) := by decide +kernel
theorem dX7_add_117 : decode cX7_add 117 = .ok (.aload_n 0, 1) := by decide +kernel
theorem dX7_add_118 : decode cX7_add 118 = .ok (.getfield 27, 3) := by decide +kernel
theorem dX7_add_121 : decode cX7_add 121 = .ok (.iload 5, 2) := by decide +kernel
theorem dX7_add_123 : decode cX7_add 123 = .ok (.dup2, 1) := by decide +kernel
theorem dX7_add_124 : decode cX7_add 124 = .ok (.iaload, 1) := by decide +kernel
theorem dX7_add_125 : decode cX7_add 125 = .ok (.iconst 1, 1) := by decide +kernel
theorem dX7_add_126 : decode cX7_add 126 = .ok (.iadd, 1) := by decide +kernel
theorem dX7_add_127 : decode cX7_add 127 = .ok (.iastore, 1) := by decide +kernel
theorem dX7_add_128 : decode cX7_add 128 = .ok (.iinc 6 (-1), 3) := by decide +kernel
theorem dX7_add_131 : decode cX7_add 131 = .ok (.goto (-49), 3) := by decide +kernel
theorem dX7_add_134 : decode cX7_add 134 = .ok (.aload_n 0, 1) := by decide +kernel
theorem dX7_add_135 : decode cX7_add 135 = .ok (.getfield 27, 3) := by decide +kernel
theorem dX7_add_138 : decode cX7_add 138 = .ok (.iload 5, 2) := by decide +kernel
theorem dX7_add_140 : decode cX7_add 140 = .ok (.iaload, 1) := by decide +kernel
theorem dX7_add_141 : decode cX7_add 141 = .ok (.ireturn, 1) := by decide +kernel
theorem dX7_open_0 : decode cX7_open 0 = .ok (.aload_n 0, 1) := by decide +kernel
theorem dX7_open_1 : decode cX7_open 1 = .ok (.iconst 0, 1) := by decide +kernel
theorem dX7_open_2 : decode cX7_open 2 = .ok (.putfield 72, 3) := by decide +kernel
theorem dX7_open_5 : decode cX7_open 5 = .ok (.aload_n 0, 1) := by decide +kernel
theorem dX7_open_6 : decode cX7_open 6 = .ok (.iload_n 1, 1) := by decide +kernel
theorem dX7_open_7 : decode cX7_open 7 = .ok (.invokevirtual 85, 3) := by decide +kernel
theorem dX7_open_10 : decode cX7_open 10 = .ok (.ifCond .ne 5, 3) := by decide +kernel
theorem dX7_open_13 : decode cX7_open 13 = .ok (.iconst (-1), 1) := by decide +kernel
theorem dX7_open_14 : decode cX7_open 14 = .ok (.ireturn, 1) := by decide +kernel
theorem dX7_open_15 : decode cX7_open 15 = .ok (.aload_n 0, 1) := by decide +kernel
theorem dX7_open_16 : decode cX7_open 16 = .ok (.getfield 90, 3) := by decide +kernel
theorem dX7_open_19 : decode cX7_open 19 = .ok (.bipush 6, 2) := by decide +kernel
theorem dX7_open_21 : decode cX7_open 21 = .ok (.if_icmp .ne 6, 3) := by decide +kernel
theorem dX7_open_24 : decode cX7_open 24 = .ok (.bipush (-4), 2) := by decide +kernel
theorem dX7_open_26 : decode cX7_open 26 = .ok (.ireturn, 1) := by decide +kernel
theorem dX7_open_27 : decode cX7_open 27 = .ok (.aload_n 0, 1) := by decide +kernel
theorem dX7_open_28 : decode cX7_open 28 = .ok (.getfield 33, 3) := by decide +kernel
theorem dX7_open_31 : decode cX7_open 31 = .ok (.aload_n 0, 1) := by decide +kernel
theorem dX7_open_32 : decode cX7_open 32 = .ok (.getfield 90, 3) := by decide +kernel
theorem dX7_open_35 : decode cX7_open 35 = .ok (.iload_n 1, 1) := by decide +kernel
theorem dX7_open_36 : decode cX7_open 36 = .ok (.iastore, 1) := by decide +kernel
theorem dX7_open_37 : decode cX7_open 37 = .ok (.aload_n 0, 1) := by decide +kernel
theorem dX7_open_38 : decode cX7_open 38 = .ok (.getfield 36, 3) := by decide +kernel
theorem dX7_open_41 : decode cX7_open 41 = .ok (.aload_n 0, 1) := by decide +kernel
theorem dX7_open_42 : decode cX7_open 42 = .ok (.getfield 90, 3) := by decide +kernel
theorem dX7_open_45 : decode cX7_open 45 = .ok (.iconst (-1), 1) := by decide +kernel
theorem dX7_open_46 : decode cX7_open 46 = .ok (.iastore, 1) := by decide +kernel
theorem dX7_open_47 : decode cX7_open 47 = .ok (.aload_n 0, 1) := by decide +kernel
theorem dX7_open_48 : decode cX7_open 48 = .ok (.getfield 48, 3) := by decide +kernel
theorem dX7_open_51 : decode cX7_open 51 = .ok (.aload_n 0, 1) := by decide +kernel
theorem dX7_open_52 : decode cX7_open 52 = .ok (.getfield 90, 3) := by decide +kernel
theorem dX7_open_55 : decode cX7_open 55 = .ok (.iconst (-1), 1) := by decide +kernel
theorem dX7_open_56 : decode cX7_open 56 = .ok (.iastore, 1) := by decide +kernel
theorem dX7_open_57 : decode cX7_open 57 = .ok (.aload_n 0, 1) := by decide +kernel
theorem dX7_open_58 : decode cX7_open 58 = .ok (.getfield 51, 3) := by decide +kernel
theorem dX7_open_61 : decode cX7_open 61 = .ok (.aload_n 0, 1) := by decide +kernel
theorem dX7_open_62 : decode cX7_open 62 = .ok (.getfield 90, 3) := by decide +kernel
theorem dX7_open_65 : decode cX7_open 65 = .ok (.iconst 0, 1) := by decide +kernel
theorem dX7_open_66 : decode cX7_open 66 = .ok (.bastore, 1) := by decide +kernel
theorem dX7_open_67 : decode cX7_open 67 = .ok (.aload_n 0, 1) := by decide +kernel
theorem dX7_open_68 : decode cX7_open 68 = .ok (.dup, 1) := by decide +kernel
theorem dX7_open_69 : decode cX7_open 69 = .ok (.getfield 90, 3) := by decide +kernel
theorem dX7_open_72 : decode cX7_open 72 = .ok (.iconst 1, 1) := by decide +kernel
theorem dX7_open_73 : decode cX7_open 73 = .ok (.iadd, 1) := by decide +kernel
theorem dX7_open_74 : decode cX7_open 74 = .ok (.putfield 90, 3) := by decide +kernel
theorem dX7_open_77 : decode cX7_open 77 = .ok (.aload_n 0, 1) := by decide +kernel
theorem dX7_open_78 : decode cX7_open 78 = .ok (.getfield 90, 3) := by decide +kernel
theorem dX7_open_81 : decode cX7_open 81 = .ok (.ireturn, 1) := by decide +kernel
theorem dX7_close_0 : decode cX7_close 0 = .ok (.aload_n 0, 1) := by decide +kernel
theorem dX7_close_1 : decode cX7_close 1 = .ok (.iconst 0, 1) := by decide +kernel
theorem dX7_close_2 : decode cX7_close 2 = .ok (.putfield 72, 3) := by decide +kernel
theorem dX7_close_5 : decode cX7_close 5 = .ok (.aload_n 0, 1) := by decide +kernel
theorem dX7_close_6 : decode cX7_close 6 = .ok (.getfield 90, 3) := by decide +kernel
theorem dX7_close_9 : decode cX7_close 9 = .ok (.ifCond .ne 6, 3) := by decide +kernel
theorem dX7_close_12 : decode cX7_close 12 = .ok (.bipush (-3), 2) := by decide +kernel
theorem dX7_close_14 : decode cX7_close 14 = .ok (.ireturn, 1) := by decide +kernel
theorem dX7_close_15 : decode cX7_close 15 = .ok (.aload_n 0, 1) := by decide +kernel
theorem dX7_close_16 : decode cX7_close 16 = .ok (.getfield 51, 3) := by decide +kernel
theorem dX7_close_19 : decode cX7_close 19 = .ok (.aload_n 0, 1) := by decide +kernel
theorem dX7_close_20 : decode cX7_close 20 = .ok (.getfield 90, 3) := by decide +kernel
theorem dX7_close_23 : decode cX7_close 23 = .ok (.iconst 1, 1) := by decide +kernel
theorem dX7_close_24 : decode cX7_close 24 = .ok (.isub, 1) := by decide +kernel
theorem dX7_close_25 : decode cX7_close 25 = .ok (.iconst 1, 1) := by decide +kernel
theorem dX7_close_26 : decode cX7_close 26 = .ok (.bastore, 1) := by decide +kernel
theorem dX7_close_27 : decode cX7_close 27 = .ok (.iconst 1, 1) := by decide +kernel
theorem dX7_close_28 : decode cX7_close 28 = .ok (.ireturn, 1) := by decide +kernel
theorem dX7_hasLine_0 : decode cX7_hasLine 0 = .ok (.aload_n 0, 1) := by decide +kernel
theorem dX7_hasLine_1 : decode cX7_hasLine 1 = .ok (.getfield 90, 3) := by decide +kernel
theorem dX7_hasLine_4 : decode cX7_hasLine 4 = .ok (.ifCond .le 99, 3) := by decide +kernel
theorem dX7_hasLine_7 : decode cX7_hasLine 7 = .ok (.aload_n 0, 1) := by decide +kernel
theorem dX7_hasLine_8 : decode cX7_hasLine 8 = .ok (.getfield 48, 3) := by decide +kernel
theorem dX7_hasLine_11 : decode cX7_hasLine 11 = .ok (.aload_n 0, 1) := by decide +kernel
theorem dX7_hasLine_12 : decode cX7_hasLine 12 = .ok (.getfield 90, 3) := by decide +kernel
theorem dX7_hasLine_15 : decode cX7_hasLine 15 = .ok (.iconst 1, 1) := by decide +kernel
theorem dX7_hasLine_16 : decode cX7_hasLine 16 = .ok (.isub, 1) := by decide +kernel
theorem dX7_hasLine_17 : decode cX7_hasLine 17 = .ok (.iaload, 1) := by decide +kernel
theorem dX7_hasLine_18 : decode cX7_hasLine 18 = .ok (.ifCond .ge 85, 3) := by decide +kernel
theorem dX7_hasLine_21 : decode cX7_hasLine 21 = .ok (.aload_n 0, 1) := by decide +kernel
theorem dX7_hasLine_22 : decode cX7_hasLine 22 = .ok (.getfield 90, 3) := by decide +kernel
theorem dX7_hasLine_25 : decode cX7_hasLine 25 = .ok (.iconst 1, 1) := by decide +kernel
theorem dX7_hasLine_26 : decode cX7_hasLine 26 = .ok (.isub, 1) := by decide +kernel
theorem dX7_hasLine_27 : decode cX7_hasLine 27 = .ok (.istore_n 1, 1) := by decide +kernel
theorem dX7_hasLine_28 : decode cX7_hasLine 28 = .ok (.aload_n 0, 1) := by decide +kernel
theorem dX7_hasLine_29 : decode cX7_hasLine 29 = .ok (.getfield 33, 3) := by decide +kernel
theorem dX7_hasLine_32 : decode cX7_hasLine 32 = .ok (.iload_n 1, 1) := by decide +kernel
theorem dX7_hasLine_33 : decode cX7_hasLine 33 = .ok (.iaload, 1) := by decide +kernel
theorem dX7_hasLine_34 : decode cX7_hasLine 34 = .ok (.istore_n 2, 1) := by decide +kernel
theorem dX7_hasLine_35 : decode cX7_hasLine 35 = .ok (.aload_n 0, 1) := by decide +kernel
theorem dX7_hasLine_36 : decode cX7_hasLine 36 = .ok (.getfield 51, 3) := by decide +kernel
theorem dX7_hasLine_39 : decode cX7_hasLine 39 = .ok (.iload_n 1, 1) := by decide +kernel
theorem dX7_hasLine_40 : decode cX7_hasLine 40 = .ok (.baload, 1) := by decide +kernel
theorem dX7_hasLine_41 : decode cX7_hasLine 41 = .ok (.ifCond .ne 20, 3) := by decide +kernel
theorem dX7_hasLine_44 : decode cX7_hasLine 44 = .ok (.aload_n 0, 1) := by decide +kernel
theorem dX7_hasLine_45 : decode cX7_hasLine 45 = .ok (.getfield 36, 3) := by decide +kernel
theorem dX7_hasLine_48 : decode cX7_hasLine 48 = .ok (.iload_n 1, 1) := by decide +kernel
theorem dX7_hasLine_49 : decode cX7_hasLine 49 = .ok (.iaload, 1) := by decide +kernel
theorem dX7_hasLine_50 : decode cX7_hasLine 50 = .ok (.iconst 1, 1) := by decide +kernel
theorem dX7_hasLine_51 : decode cX7_hasLine 51 = .ok (.iadd, 1) := by decide +kernel
theorem dX7_hasLine_52 : decode cX7_hasLine 52 = .ok (.aload_n 0, 1) := by decide +kernel
theorem dX7_hasLine_53 : decode cX7_hasLine 53 = .ok (.getfield 24, 3) := by decide +kernel
theorem dX7_hasLine_56 : decode cX7_hasLine 56 = .ok (.iload_n 2, 1) := by decide +kernel
theorem dX7_hasLine_57 : decode cX7_hasLine 57 = .ok (.iaload, 1) := by decide +kernel
theorem dX7_hasLine_58 : decode cX7_hasLine 58 = .ok (.if_icmp .lt 16, 3) := by decide +kernel
theorem dX7_hasLine_61 : decode cX7_hasLine 61 = .ok (.aload_n 0, 1) := by decide +kernel
theorem dX7_hasLine_62 : decode cX7_hasLine 62 = .ok (.dup, 1) := by decide +kernel
theorem dX7_hasLine_63 : decode cX7_hasLine 63 = .ok (.getfield 90, 3) := by decide +kernel
theorem dX7_hasLine_66 : decode cX7_hasLine 66 = .ok (.iconst 1, 1) := by decide +kernel
theorem dX7_hasLine_67 : decode cX7_hasLine 67 = .ok (.isub, 1) := by decide +kernel
theorem dX7_hasLine_68 : decode cX7_hasLine 68 = .ok (.putfield 90, 3) := by decide +kernel
theorem dX7_hasLine_71 : decode cX7_hasLine 71 = .ok (.goto 29, 3) := by decide +kernel
theorem dX7_hasLine_74 : decode cX7_hasLine 74 = .ok (.aload_n 0, 1) := by decide +kernel
theorem dX7_hasLine_75 : decode cX7_hasLine 75 = .ok (.getfield 36, 3) := by decide +kernel
theorem dX7_hasLine_78 : decode cX7_hasLine 78 = .ok (.iload_n 1, 1) := by decide +kernel
theorem dX7_hasLine_79 : decode cX7_hasLine 79 = .ok (.dup2, 1) := by decide +kernel
theorem dX7_hasLine_80 : decode cX7_hasLine 80 = .ok (.iaload, 1) := by decide +kernel
theorem dX7_hasLine_81 : decode cX7_hasLine 81 = .ok (.iconst 1, 1) := by decide +kernel
theorem dX7_hasLine_82 : decode cX7_hasLine 82 = .ok (.iadd, 1) := by decide +kernel
theorem dX7_hasLine_83 : decode cX7_hasLine 83 = .ok (.iastore, 1) := by decide +kernel
theorem dX7_hasLine_84 : decode cX7_hasLine 84 = .ok (.aload_n 0, 1) := by decide +kernel
theorem dX7_hasLine_85 : decode cX7_hasLine 85 = .ok (.iload_n 1, 1) := by decide +kernel
theorem dX7_hasLine_86 : decode cX7_hasLine 86 = .ok (.bipush 30, 2) := by decide +kernel
theorem dX7_hasLine_88 : decode cX7_hasLine 88 = .ok (.iload_n 2, 1) := by decide +kernel
theorem dX7_hasLine_89 : decode cX7_hasLine 89 = .ok (.imul, 1) := by decide +kernel
theorem dX7_hasLine_90 : decode cX7_hasLine 90 = .ok (.aload_n 0, 1) := by decide +kernel
theorem dX7_hasLine_91 : decode cX7_hasLine 91 = .ok (.getfield 36, 3) := by decide +kernel
theorem dX7_hasLine_94 : decode cX7_hasLine 94 = .ok (.iload_n 1, 1) := by decide +kernel
theorem dX7_hasLine_95 : decode cX7_hasLine 95 = .ok (.iaload, 1) := by decide +kernel
theorem dX7_hasLine_96 : decode cX7_hasLine 96 = .ok (.iadd, 1) := by decide +kernel
theorem dX7_hasLine_97 : decode cX7_hasLine 97 = .ok (.invokevirtual 93, 3) := by decide +kernel
theorem dX7_hasLine_100 : decode cX7_hasLine 100 = .ok (.goto (-100), 3) := by decide +kernel
theorem dX7_hasLine_103 : decode cX7_hasLine 103 = .ok (.aload_n 0, 1) := by decide +kernel
theorem dX7_hasLine_104 : decode cX7_hasLine 104 = .ok (.getfield 90, 3) := by decide +kernel
theorem dX7_hasLine_107 : decode cX7_hasLine 107 = .ok (.ifCond .le 7, 3) := by decide +kernel
theorem dX7_hasLine_110 : decode cX7_hasLine 110 = .ok (.iconst 1, 1) := by decide +kernel
theorem dX7_hasLine_111 : decode cX7_hasLine 111 = .ok (.goto 4, 3) := by decide +kernel
theorem dX7_hasLine_114 : decode cX7_hasLine 114 = .ok (.iconst 0, 1) := by decide +kernel
theorem dX7_hasLine_115 : decode cX7_hasLine 115 = .ok (.ireturn, 1) := by decide +kernel
theorem dX7_begin_0 : decode cX7_begin 0 = .ok (.aload_n 0, 1) := by decide +kernel
theorem dX7_begin_1 : decode cX7_begin 1 = .ok (.getfield 27, 3) := by decide +kernel
theorem dX7_begin_4 : decode cX7_begin 4 = .ok (.iload_n 2, 1) := by decide +kernel
theorem dX7_begin_5 : decode cX7_begin 5 = .ok (.iaload, 1) := by decide +kernel
theorem dX7_begin_6 : decode cX7_begin 6 = .ok (.istore_n 3, 1) := by decide +kernel
theorem dX7_begin_7 : decode cX7_begin 7 = .ok (.iload_n 3, 1) := by decide +kernel
theorem dX7_begin_8 : decode cX7_begin 8 = .ok (.ifCond .le 27, 3) := by decide +kernel
theorem dX7_begin_11 : decode cX7_begin 11 = .ok (.aload_n 0, 1) := by decide +kernel
theorem dX7_begin_12 : decode cX7_begin 12 = .ok (.getfield 30, 3) := by decide +kernel
theorem dX7_begin_15 : decode cX7_begin 15 = .ok (.bipush 120, 2) := by decide +kernel
theorem dX7_begin_17 : decode cX7_begin 17 = .ok (.iload_n 2, 1) := by decide +kernel
theorem dX7_begin_18 : decode cX7_begin 18 = .ok (.imul, 1) := by decide +kernel
theorem dX7_begin_19 : decode cX7_begin 19 = .ok (.iload_n 3, 1) := by decide +kernel
theorem dX7_begin_20 : decode cX7_begin 20 = .ok (.iadd, 1) := by decide +kernel
theorem dX7_begin_21 : decode cX7_begin 21 = .ok (.iconst 1, 1) := by decide +kernel
theorem dX7_begin_22 : decode cX7_begin 22 = .ok (.isub, 1) := by decide +kernel
theorem dX7_begin_23 : decode cX7_begin 23 = .ok (.iaload, 1) := by decide +kernel
theorem dX7_begin_24 : decode cX7_begin 24 = .ok (.bipush 32, 2) := by decide +kernel
theorem dX7_begin_26 : decode cX7_begin 26 = .ok (.if_icmp .ne 9, 3) := by decide +kernel
theorem dX7_begin_29 : decode cX7_begin 29 = .ok (.iinc 3 (-1), 3) := by decide +kernel
theorem dX7_begin_32 : decode cX7_begin 32 = .ok (.goto (-25), 3) := by decide +kernel
theorem dX7_begin_35 : decode cX7_begin 35 = .ok (.iconst 0, 1) := by decide +kernel
theorem dX7_begin_36 : decode cX7_begin 36 = .ok (.istore 4, 2) := by decide +kernel
theorem dX7_begin_38 : decode cX7_begin 38 = .ok (.iload 4, 2) := by decide +kernel
theorem dX7_begin_40 : decode cX7_begin 40 = .ok (.iload_n 3, 1) := by decide +kernel
theorem dX7_begin_41 : decode cX7_begin 41 = .ok (.if_icmp .ge 34, 3) := by decide +kernel
theorem dX7_begin_44 : decode cX7_begin 44 = .ok (.aload_n 0, 1) := by decide +kernel
theorem dX7_begin_45 : decode cX7_begin 45 = .ok (.getfield 39, 3) := by decide +kernel
theorem dX7_begin_48 : decode cX7_begin 48 = .ok (.sipush 128, 3) := by decide +kernel
theorem dX7_begin_51 : decode cX7_begin 51 = .ok (.iload_n 1, 1) := by decide +kernel
theorem dX7_begin_52 : decode cX7_begin 52 = .ok (.imul, 1) := by decide +kernel
theorem dX7_begin_53 : decode cX7_begin 53 = .ok (.iload 4, 2) := by decide +kernel
theorem dX7_begin_55 : decode cX7_begin 55 = .ok (.iadd, 1) := by decide +kernel
theorem dX7_begin_56 : decode cX7_begin 56 = .ok (.aload_n 0, 1) := by decide +kernel
theorem dX7_begin_57 : decode cX7_begin 57 = .ok (.getfield 30, 3) := by decide +kernel
theorem dX7_begin_60 : decode cX7_begin 60 = .ok (.bipush 120, 2) := by decide +kernel
theorem dX7_begin_62 : decode cX7_begin 62 = .ok (.iload_n 2, 1) := by decide +kernel
theorem dX7_begin_63 : decode cX7_begin 63 = .ok (.imul, 1) := by decide +kernel
theorem dX7_begin_64 : decode cX7_begin 64 = .ok (.iload 4, 2) := by decide +kernel
theorem dX7_begin_66 : decode cX7_begin 66 = .ok (.iadd, 1) := by decide +kernel
theorem dX7_begin_67 : decode cX7_begin 67 = .ok (.iaload, 1) := by decide +kernel
theorem dX7_begin_68 : decode cX7_begin 68 = .ok (.iastore, 1) := by decide +kernel
theorem dX7_begin_69 : decode cX7_begin 69 = .ok (.iinc 4 1, 3) := by decide +kernel
theorem dX7_begin_72 : decode cX7_begin 72 = .ok (.goto (-34), 3) := by decide +kernel
theorem dX7_begin_75 : decode cX7_begin 75 = .ok (.aload_n 0, 1) := by decide +kernel
theorem dX7_begin_76 : decode cX7_begin 76 = .ok (.getfield 20, 3) := by decide +kernel
theorem dX7_begin_79 : decode cX7_begin 79 = .ok (.ifCond .lt 22, 3) := by decide +kernel
theorem dX7_begin_82 : decode cX7_begin 82 = .ok (.aload_n 0, 1) := by decide +kernel
theorem dX7_begin_83 : decode cX7_begin 83 = .ok (.getfield 39, 3) := by decide +kernel
theorem dX7_begin_86 : decode cX7_begin 86 = .ok (.sipush 128, 3) := by decide +kernel
theorem dX7_begin_89 : decode cX7_begin 89 = .ok (.iload_n 1, 1) := by decide +kernel
theorem dX7_begin_90 : decode cX7_begin 90 = .ok (.imul, 1) := by decide +kernel
theorem dX7_begin_91 : decode cX7_begin 91 = .ok (.iload_n 3, 1) := by decide +kernel
theorem dX7_begin_92 : decode cX7_begin 92 = .ok (.iadd, 1) := by decide +kernel
theorem dX7_begin_93 : decode cX7_begin 93 = .ok (.aload_n 0, 1) := by decide +kernel
theorem dX7_begin_94 : decode cX7_begin 94 = .ok (.getfield 20, 3) := by decide +kernel
theorem dX7_begin_97 : decode cX7_begin 97 = .ok (.iastore, 1) := by decide +kernel
theorem dX7_begin_98 : decode cX7_begin 98 = .ok (.iinc 3 1, 3) := by decide +kernel
theorem dX7_begin_101 : decode cX7_begin 101 = .ok (.aload_n 0, 1) := by decide +kernel
theorem dX7_begin_102 : decode cX7_begin 102 = .ok (.getfield 42, 3) := by decide +kernel
theorem dX7_begin_105 : decode cX7_begin 105 = .ok (.iload_n 1, 1) := by decide +kernel
theorem dX7_begin_106 : decode cX7_begin 106 = .ok (.iload_n 3, 1) := by decide +kernel
theorem dX7_begin_107 : decode cX7_begin 107 = .ok (.iastore, 1) := by decide +kernel
theorem dX7_begin_108 : decode cX7_begin 108 = .ok (.aload_n 0, 1) := by decide +kernel
theorem dX7_begin_109 : decode cX7_begin 109 = .ok (.getfield 45, 3) := by decide +kernel
theorem dX7_begin_112 : decode cX7_begin 112 = .ok (.iload_n 1, 1) := by decide +kernel
theorem dX7_begin_113 : decode cX7_begin 113 = .ok (.iconst 0, 1) := by decide +kernel
theorem dX7_begin_114 : decode cX7_begin 114 = .ok (.iastore, 1) := by decide +kernel
theorem dX7_begin_115 : decode cX7_begin 115 = .ok (.aload_n 0, 1) := by decide +kernel
theorem dX7_begin_116 : decode cX7_begin 116 = .ok (.getfield 48, 3) := by decide +kernel
theorem dX7_begin_119 : decode cX7_begin 119 = .ok (.iload_n 1, 1) := by decide +kernel
theorem dX7_begin_120 : decode cX7_begin 120 = .ok (.iconst 0, 1) := by decide +kernel
theorem dX7_begin_121 : decode cX7_begin 121 = .ok (.iastore, 1) := by decide +kernel
theorem dX7_begin_122 : decode cX7_begin 122 = .ok (.aload_n 0, 1) := by decide +kernel
theorem dX7_begin_123 : decode cX7_begin 123 = .ok (.dup, 1) := by decide +kernel
theorem dX7_begin_124 : decode cX7_begin 124 = .ok (.getfield 97, 3) := by decide +kernel
theorem dX7_begin_127 : decode cX7_begin 127 = .ok (.iconst 1, 1) := by decide +kernel
theorem dX7_begin_128 : decode cX7_begin 128 = .ok (.iadd, 1) := by decide +kernel
theorem dX7_begin_129 : decode cX7_begin 129 = .ok (.putfield 97, 3) := by decide +kernel
theorem dX7_begin_132 : decode cX7_begin 132 = .ok (.return_, 1) := by decide +kernel
theorem dX7_standing_0 : decode cX7_standing 0 = .ok (.aload_n 0, 1) := by decide +kernel
theorem dX7_standing_1 : decode cX7_standing 1 = .ok (.getfield 90, 3) := by decide +kernel
theorem dX7_standing_4 : decode cX7_standing 4 = .ok (.iconst 1, 1) := by decide +kernel
theorem dX7_standing_5 : decode cX7_standing 5 = .ok (.isub, 1) := by decide +kernel
theorem dX7_standing_6 : decode cX7_standing 6 = .ok (.istore_n 2, 1) := by decide +kernel
theorem dX7_standing_7 : decode cX7_standing 7 = .ok (.iload_n 1, 1) := by decide +kernel
theorem dX7_standing_8 : decode cX7_standing 8 = .ok (.aload_n 0, 1) := by decide +kernel
theorem dX7_standing_9 : decode cX7_standing 9 = .ok (.getfield 42, 3) := by decide +kernel
theorem dX7_standing_12 : decode cX7_standing 12 = .ok (.iload_n 2, 1) := by decide +kernel
theorem dX7_standing_13 : decode cX7_standing 13 = .ok (.iaload, 1) := by decide +kernel
theorem dX7_standing_14 : decode cX7_standing 14 = .ok (.if_icmp .ge 18, 3) := by decide +kernel
theorem dX7_standing_17 : decode cX7_standing 17 = .ok (.aload_n 0, 1) := by decide +kernel
theorem dX7_standing_18 : decode cX7_standing 18 = .ok (.getfield 39, 3) := by decide +kernel
theorem dX7_standing_21 : decode cX7_standing 21 = .ok (.sipush 128, 3) := by decide +kernel
theorem dX7_standing_24 : decode cX7_standing 24 = .ok (.iload_n 2, 1) := by decide +kernel
theorem dX7_standing_25 : decode cX7_standing 25 = .ok (.imul, 1) := by decide +kernel
theorem dX7_standing_26 : decode cX7_standing 26 = .ok (.iload_n 1, 1) := by decide +kernel
theorem dX7_standing_27 : decode cX7_standing 27 = .ok (.iadd, 1) := by decide +kernel
theorem dX7_standing_28 : decode cX7_standing 28 = .ok (.iaload, 1) := by decide +kernel
theorem dX7_standing_29 : decode cX7_standing 29 = .ok (.goto 4, 3) := by decide +kernel
theorem dX7_standing_32 : decode cX7_standing 32 = .ok (.iconst (-1), 1) := by decide +kernel
theorem dX7_standing_33 : decode cX7_standing 33 = .ok (.ireturn, 1) := by decide +kernel
theorem dX7_digit_0 : decode cX7_digit 0 = .ok (.iload_n 0, 1) := by decide +kernel
theorem dX7_digit_1 : decode cX7_digit 1 = .ok (.bipush 48, 2) := by decide +kernel
theorem dX7_digit_3 : decode cX7_digit 3 = .ok (.if_icmp .lt 16, 3) := by decide +kernel
theorem dX7_digit_6 : decode cX7_digit 6 = .ok (.iload_n 0, 1) := by decide +kernel
theorem dX7_digit_7 : decode cX7_digit 7 = .ok (.bipush 57, 2) := by decide +kernel
theorem dX7_digit_9 : decode cX7_digit 9 = .ok (.if_icmp .gt 10, 3) := by decide +kernel
theorem dX7_digit_12 : decode cX7_digit 12 = .ok (.iload_n 0, 1) := by decide +kernel
theorem dX7_digit_13 : decode cX7_digit 13 = .ok (.bipush 48, 2) := by decide +kernel
theorem dX7_digit_15 : decode cX7_digit 15 = .ok (.isub, 1) := by decide +kernel
theorem dX7_digit_16 : decode cX7_digit 16 = .ok (.goto 23, 3) := by decide +kernel
theorem dX7_digit_19 : decode cX7_digit 19 = .ok (.iload_n 0, 1) := by decide +kernel
theorem dX7_digit_20 : decode cX7_digit 20 = .ok (.bipush 97, 2) := by decide +kernel
theorem dX7_digit_22 : decode cX7_digit 22 = .ok (.if_icmp .lt 16, 3) := by decide +kernel
theorem dX7_digit_25 : decode cX7_digit 25 = .ok (.iload_n 0, 1) := by decide +kernel
theorem dX7_digit_26 : decode cX7_digit 26 = .ok (.bipush 102, 2) := by decide +kernel
theorem dX7_digit_28 : decode cX7_digit 28 = .ok (.if_icmp .gt 10, 3) := by decide +kernel
theorem dX7_digit_31 : decode cX7_digit 31 = .ok (.iload_n 0, 1) := by decide +kernel
theorem dX7_digit_32 : decode cX7_digit 32 = .ok (.bipush 87, 2) := by decide +kernel
theorem dX7_digit_34 : decode cX7_digit 34 = .ok (.isub, 1) := by decide +kernel
theorem dX7_digit_35 : decode cX7_digit 35 = .ok (.goto 4, 3) := by decide +kernel
theorem dX7_digit_38 : decode cX7_digit 38 = .ok (.iconst (-1), 1) := by decide +kernel
theorem dX7_digit_39 : decode cX7_digit 39 = .ok (.ireturn, 1) := by decide +kernel
theorem dX7_see_0 : decode cX7_see 0 = .ok (.aload_n 0, 1) := by decide +kernel
theorem dX7_see_1 : decode cX7_see 1 = .ok (.aload_n 0, 1) := by decide +kernel
theorem dX7_see_2 : decode cX7_see 2 = .ok (.iload_n 1, 1) := by decide +kernel
theorem dX7_see_3 : decode cX7_see 3 = .ok (.invokevirtual 100, 3) := by decide +kernel
theorem dX7_see_6 : decode cX7_see 6 = .ok (.putfield 104, 3) := by decide +kernel
theorem dX7_see_9 : decode cX7_see 9 = .ok (.aload_n 0, 1) := by decide +kernel
theorem dX7_see_10 : decode cX7_see 10 = .ok (.iconst 1, 1) := by decide +kernel
theorem dX7_see_11 : decode cX7_see 11 = .ok (.putfield 107, 3) := by decide +kernel
theorem dX7_see_14 : decode cX7_see 14 = .ok (.aload_n 0, 1) := by decide +kernel
theorem dX7_see_15 : decode cX7_see 15 = .ok (.getfield 7, 3) := by decide +kernel
theorem dX7_see_18 : decode cX7_see 18 = .ok (.aload_n 0, 1) := by decide +kernel
theorem dX7_see_19 : decode cX7_see 19 = .ok (.getfield 104, 3) := by decide +kernel
theorem dX7_see_22 : decode cX7_see 22 = .ok (.iaload, 1) := by decide +kernel
theorem dX7_see_23 : decode cX7_see 23 = .ok (.bipush 7, 2) := by decide +kernel
theorem dX7_see_25 : decode cX7_see 25 = .ok (.if_icmp .ne 141, 3) := by decide +kernel
theorem dX7_see_28 : decode cX7_see 28 = .ok (.aload_n 0, 1) := by decide +kernel
theorem dX7_see_29 : decode cX7_see 29 = .ok (.iload_n 1, 1) := by decide +kernel
theorem dX7_see_30 : decode cX7_see 30 = .ok (.aload_n 0, 1) := by decide +kernel
theorem dX7_see_31 : decode cX7_see 31 = .ok (.getfield 107, 3) := by decide +kernel
theorem dX7_see_34 : decode cX7_see 34 = .ok (.iadd, 1) := by decide +kernel
theorem dX7_see_35 : decode cX7_see 35 = .ok (.invokevirtual 100, 3) := by decide +kernel
theorem dX7_see_38 : decode cX7_see 38 = .ok (.aload_n 0, 1) := by decide +kernel
theorem dX7_see_39 : decode cX7_see 39 = .ok (.getfield 104, 3) := by decide +kernel
theorem dX7_see_42 : decode cX7_see 42 = .ok (.if_icmp .ne 124, 3) := by decide +kernel
theorem dX7_see_45 : decode cX7_see 45 = .ok (.aload_n 0, 1) := by decide +kernel
theorem dX7_see_46 : decode cX7_see 46 = .ok (.iload_n 1, 1) := by decide +kernel
theorem dX7_see_47 : decode cX7_see 47 = .ok (.aload_n 0, 1) := by decide +kernel
theorem dX7_see_48 : decode cX7_see 48 = .ok (.getfield 107, 3) := by decide +kernel
theorem dX7_see_51 : decode cX7_see 51 = .ok (.iadd, 1) := by decide +kernel
theorem dX7_see_52 : decode cX7_see 52 = .ok (.iconst 1, 1) := by decide +kernel
theorem dX7_see_53 : decode cX7_see 53 = .ok (.iadd, 1) := by decide +kernel
theorem dX7_see_54 : decode cX7_see 54 = .ok (.invokevirtual 100, 3) := by decide +kernel
theorem dX7_see_57 : decode cX7_see 57 = .ok (.invokestatic 110, 3) := by decide +kernel
theorem dX7_see_60 : decode cX7_see 60 = .ok (.ifCond .eq 106, 3) := by decide +kernel
theorem dX7_see_63 : decode cX7_see 63 = .ok (.aload_n 0, 1) := by decide +kernel
theorem dX7_see_64 : decode cX7_see 64 = .ok (.iload_n 1, 1) := by decide +kernel
theorem dX7_see_65 : decode cX7_see 65 = .ok (.aload_n 0, 1) := by decide +kernel
theorem dX7_see_66 : decode cX7_see 66 = .ok (.getfield 107, 3) := by decide +kernel
theorem dX7_see_69 : decode cX7_see 69 = .ok (.iadd, 1) := by decide +kernel
theorem dX7_see_70 : decode cX7_see 70 = .ok (.iconst 1, 1) := by decide +kernel
theorem dX7_see_71 : decode cX7_see 71 = .ok (.iadd, 1) := by decide +kernel
theorem dX7_see_72 : decode cX7_see 72 = .ok (.invokevirtual 100, 3) := by decide +kernel
theorem dX7_see_75 : decode cX7_see 75 = .ok (.istore_n 2, 1) := by decide +kernel
theorem dX7_see_76 : decode cX7_see 76 = .ok (.aload_n 0, 1) := by decide +kernel
theorem dX7_see_77 : decode cX7_see 77 = .ok (.iload_n 1, 1) := by decide +kernel
theorem dX7_see_78 : decode cX7_see 78 = .ok (.aload_n 0, 1) := by decide +kernel
theorem dX7_see_79 : decode cX7_see 79 = .ok (.getfield 107, 3) := by decide +kernel
theorem dX7_see_82 : decode cX7_see 82 = .ok (.iadd, 1) := by decide +kernel
theorem dX7_see_83 : decode cX7_see 83 = .ok (.iconst 2, 1) := by decide +kernel
theorem dX7_see_84 : decode cX7_see 84 = .ok (.iadd, 1) := by decide +kernel
theorem dX7_see_85 : decode cX7_see 85 = .ok (.invokevirtual 100, 3) := by decide +kernel
theorem dX7_see_88 : decode cX7_see 88 = .ok (.istore_n 3, 1) := by decide +kernel
theorem dX7_see_89 : decode cX7_see 89 = .ok (.iload_n 2, 1) := by decide +kernel
theorem dX7_see_90 : decode cX7_see 90 = .ok (.invokestatic 113, 3) := by decide +kernel
theorem dX7_see_93 : decode cX7_see 93 = .ok (.ifCond .lt 39, 3) := by decide +kernel
theorem dX7_see_96 : decode cX7_see 96 = .ok (.iload_n 3, 1) := by decide +kernel
theorem dX7_see_97 : decode cX7_see 97 = .ok (.invokestatic 113, 3) := by decide +kernel
theorem dX7_see_100 : decode cX7_see 100 = .ok (.ifCond .lt 32, 3) := by decide +kernel
theorem dX7_see_103 : decode cX7_see 103 = .ok (.aload_n 0, 1) := by decide +kernel
theorem dX7_see_104 : decode cX7_see 104 = .ok (.bipush 16, 2) := by decide +kernel
theorem dX7_see_106 : decode cX7_see 106 = .ok (.iload_n 2, 1) := by decide +kernel
theorem dX7_see_107 : decode cX7_see 107 = .ok (.invokestatic 113, 3) := by decide +kernel
theorem dX7_see_110 : decode cX7_see 110 = .ok (.imul, 1) := by decide +kernel
theorem dX7_see_111 : decode cX7_see 111 = .ok (.iload_n 3, 1) := by decide +kernel
theorem dX7_see_112 : decode cX7_see 112 = .ok (.invokestatic 113, 3) := by decide +kernel
theorem dX7_see_115 : decode cX7_see 115 = .ok (.iadd, 1) := by decide +kernel
theorem dX7_see_116 : decode cX7_see 116 = .ok (.putfield 104, 3) := by decide +kernel
theorem dX7_see_119 : decode cX7_see 119 = .ok (.aload_n 0, 1) := by decide +kernel
theorem dX7_see_120 : decode cX7_see 120 = .ok (.aload_n 0, 1) := by decide +kernel
theorem dX7_see_121 : decode cX7_see 121 = .ok (.getfield 107, 3) := by decide +kernel
theorem dX7_see_124 : decode cX7_see 124 = .ok (.iconst 3, 1) := by decide +kernel
theorem dX7_see_125 : decode cX7_see 125 = .ok (.iadd, 1) := by decide +kernel
theorem dX7_see_126 : decode cX7_see 126 = .ok (.putfield 107, 3) := by decide +kernel
theorem dX7_see_129 : decode cX7_see 129 = .ok (.goto 34, 3) := by decide +kernel
theorem dX7_see_132 : decode cX7_see 132 = .ok (.aload_n 0, 1) := by decide +kernel
theorem dX7_see_133 : decode cX7_see 133 = .ok (.iload_n 2, 1) := by decide +kernel
theorem dX7_see_134 : decode cX7_see 134 = .ok (.bipush 64, 2) := by decide +kernel
theorem dX7_see_136 : decode cX7_see 136 = .ok (.if_icmp .ge 10, 3) := by decide +kernel
theorem dX7_see_139 : decode cX7_see 139 = .ok (.iload_n 2, 1) := by decide +kernel
theorem dX7_see_140 : decode cX7_see 140 = .ok (.bipush 64, 2) := by decide +kernel
theorem dX7_see_142 : decode cX7_see 142 = .ok (.iadd, 1) := by decide +kernel
theorem dX7_see_143 : decode cX7_see 143 = .ok (.goto 7, 3) := by decide +kernel
theorem dX7_see_146 : decode cX7_see 146 = .ok (.iload_n 2, 1) := by decide +kernel
theorem dX7_see_147 : decode cX7_see 147 = .ok (.bipush 64, 2) := by decide +kernel
theorem dX7_see_149 : decode cX7_see 149 = .ok (.isub, 1) := by decide +kernel
theorem dX7_see_150 : decode cX7_see 150 = .ok (.putfield 104, 3) := by decide +kernel
theorem dX7_see_153 : decode cX7_see 153 = .ok (.aload_n 0, 1) := by decide +kernel
theorem dX7_see_154 : decode cX7_see 154 = .ok (.aload_n 0, 1) := by decide +kernel
theorem dX7_see_155 : decode cX7_see 155 = .ok (.getfield 107, 3) := by decide +kernel
theorem dX7_see_158 : decode cX7_see 158 = .ok (.iconst 2, 1) := by decide +kernel
theorem dX7_see_159 : decode cX7_see 159 = .ok (.iadd, 1) := by decide +kernel
theorem dX7_see_160 : decode cX7_see 160 = .ok (.putfield 107, 3) := by decide +kernel
theorem dX7_see_163 : decode cX7_see 163 = .ok (.goto (-149), 3) := by decide +kernel
theorem dX7_see_166 : decode cX7_see 166 = .ok (.return_, 1) := by decide +kernel
theorem dX7_isLow_0 : decode cX7_isLow 0 = .ok (.iload_n 0, 1) := by decide +kernel
theorem dX7_isLow_1 : decode cX7_isLow 1 = .ok (.ifCond .lt 14, 3) := by decide +kernel
theorem dX7_isLow_4 : decode cX7_isLow 4 = .ok (.iload_n 0, 1) := by decide +kernel
theorem dX7_isLow_5 : decode cX7_isLow 5 = .ok (.sipush 128, 3) := by decide +kernel
theorem dX7_isLow_8 : decode cX7_isLow 8 = .ok (.if_icmp .ge 7, 3) := by decide +kernel
theorem dX7_isLow_11 : decode cX7_isLow 11 = .ok (.iconst 1, 1) := by decide +kernel
theorem dX7_isLow_12 : decode cX7_isLow 12 = .ok (.goto 4, 3) := by decide +kernel
theorem dX7_isLow_15 : decode cX7_isLow 15 = .ok (.iconst 0, 1) := by decide +kernel
theorem dX7_isLow_16 : decode cX7_isLow 16 = .ok (.ireturn, 1) := by decide +kernel
theorem dX7_tell_0 : decode cX7_tell 0 = .ok (.aload_n 0, 1) := by decide +kernel
theorem dX7_tell_1 : decode cX7_tell 1 = .ok (.getfield 116, 3) := by decide +kernel
theorem dX7_tell_4 : decode cX7_tell 4 = .ok (.bipush 100, 2) := by decide +kernel
theorem dX7_tell_6 : decode cX7_tell 6 = .ok (.if_icmp .ge 46, 3) := by decide +kernel
theorem dX7_tell_9 : decode cX7_tell 9 = .ok (.aload_n 0, 1) := by decide +kernel
theorem dX7_tell_10 : decode cX7_tell 10 = .ok (.getfield 63, 3) := by decide +kernel
theorem dX7_tell_13 : decode cX7_tell 13 = .ok (.iconst 3, 1) := by decide +kernel
theorem dX7_tell_14 : decode cX7_tell 14 = .ok (.aload_n 0, 1) := by decide +kernel
theorem dX7_tell_15 : decode cX7_tell 15 = .ok (.getfield 116, 3) := by decide +kernel
theorem dX7_tell_18 : decode cX7_tell 18 = .ok (.imul, 1) := by decide +kernel
theorem dX7_tell_19 : decode cX7_tell 19 = .ok (.iload_n 1, 1) := by decide +kernel
theorem dX7_tell_20 : decode cX7_tell 20 = .ok (.iastore, 1) := by decide +kernel
theorem dX7_tell_21 : decode cX7_tell 21 = .ok (.aload_n 0, 1) := by decide +kernel
theorem dX7_tell_22 : decode cX7_tell 22 = .ok (.getfield 63, 3) := by decide +kernel
theorem dX7_tell_25 : decode cX7_tell 25 = .ok (.iconst 3, 1) := by decide +kernel
theorem dX7_tell_26 : decode cX7_tell 26 = .ok (.aload_n 0, 1) := by decide +kernel
theorem dX7_tell_27 : decode cX7_tell 27 = .ok (.getfield 116, 3) := by decide +kernel
theorem dX7_tell_30 : decode cX7_tell 30 = .ok (.imul, 1) := by decide +kernel
theorem dX7_tell_31 : decode cX7_tell 31 = .ok (.iconst 1, 1) := by decide +kernel
theorem dX7_tell_32 : decode cX7_tell 32 = .ok (.iadd, 1) := by decide +kernel
theorem dX7_tell_33 : decode cX7_tell 33 = .ok (.aload_n 0, 1) := by decide +kernel
theorem dX7_tell_34 : decode cX7_tell 34 = .ok (.getfield 119, 3) := by decide +kernel
theorem dX7_tell_37 : decode cX7_tell 37 = .ok (.iastore, 1) := by decide +kernel
theorem dX7_tell_38 : decode cX7_tell 38 = .ok (.aload_n 0, 1) := by decide +kernel
theorem dX7_tell_39 : decode cX7_tell 39 = .ok (.getfield 63, 3) := by decide +kernel
theorem dX7_tell_42 : decode cX7_tell 42 = .ok (.iconst 3, 1) := by decide +kernel
theorem dX7_tell_43 : decode cX7_tell 43 = .ok (.aload_n 0, 1) := by decide +kernel
theorem dX7_tell_44 : decode cX7_tell 44 = .ok (.getfield 116, 3) := by decide +kernel
theorem dX7_tell_47 : decode cX7_tell 47 = .ok (.imul, 1) := by decide +kernel
theorem dX7_tell_48 : decode cX7_tell 48 = .ok (.iconst 2, 1) := by decide +kernel
theorem dX7_tell_49 : decode cX7_tell 49 = .ok (.iadd, 1) := by decide +kernel
theorem dX7_tell_50 : decode cX7_tell 50 = .ok (.iload_n 2, 1) := by decide +kernel
theorem dX7_tell_51 : decode cX7_tell 51 = .ok (.iastore, 1) := by decide +kernel
theorem dX7_tell_52 : decode cX7_tell 52 = .ok (.aload_n 0, 1) := by decide +kernel
theorem dX7_tell_53 : decode cX7_tell 53 = .ok (.dup, 1) := by decide +kernel
theorem dX7_tell_54 : decode cX7_tell 54 = .ok (.getfield 116, 3) := by decide +kernel
theorem dX7_tell_57 : decode cX7_tell 57 = .ok (.iconst 1, 1) := by decide +kernel
theorem dX7_tell_58 : decode cX7_tell 58 = .ok (.iadd, 1) := by decide +kernel
theorem dX7_tell_59 : decode cX7_tell 59 = .ok (.putfield 116, 3) := by decide +kernel
theorem dX7_tell_62 : decode cX7_tell 62 = .ok (.return_, 1) := by decide +kernel
theorem dX7_keep_0 : decode cX7_keep 0 = .ok (.aload_n 0, 1) := by decide +kernel
theorem dX7_keep_1 : decode cX7_keep 1 = .ok (.getfield 90, 3) := by decide +kernel
theorem dX7_keep_4 : decode cX7_keep 4 = .ok (.iconst 1, 1) := by decide +kernel
theorem dX7_keep_5 : decode cX7_keep 5 = .ok (.isub, 1) := by decide +kernel
theorem dX7_keep_6 : decode cX7_keep 6 = .ok (.istore 5, 2) := by decide +kernel
theorem dX7_keep_8 : decode cX7_keep 8 = .ok (.aload_n 0, 1) := by decide +kernel
theorem dX7_keep_9 : decode cX7_keep 9 = .ok (.getfield 54, 3) := by decide +kernel
theorem dX7_keep_12 : decode cX7_keep 12 = .ok (.bipush 6, 2) := by decide +kernel
theorem dX7_keep_14 : decode cX7_keep 14 = .ok (.aload_n 0, 1) := by decide +kernel
theorem dX7_keep_15 : decode cX7_keep 15 = .ok (.getfield 119, 3) := by decide +kernel
theorem dX7_keep_18 : decode cX7_keep 18 = .ok (.imul, 1) := by decide +kernel
theorem dX7_keep_19 : decode cX7_keep 19 = .ok (.iload_n 1, 1) := by decide +kernel
theorem dX7_keep_20 : decode cX7_keep 20 = .ok (.iastore, 1) := by decide +kernel
theorem dX7_keep_21 : decode cX7_keep 21 = .ok (.aload_n 0, 1) := by decide +kernel
theorem dX7_keep_22 : decode cX7_keep 22 = .ok (.getfield 54, 3) := by decide +kernel
theorem dX7_keep_25 : decode cX7_keep 25 = .ok (.bipush 6, 2) := by decide +kernel
theorem dX7_keep_27 : decode cX7_keep 27 = .ok (.aload_n 0, 1) := by decide +kernel
theorem dX7_keep_28 : decode cX7_keep 28 = .ok (.getfield 119, 3) := by decide +kernel
theorem dX7_keep_31 : decode cX7_keep 31 = .ok (.imul, 1) := by decide +kernel
theorem dX7_keep_32 : decode cX7_keep 32 = .ok (.iconst 1, 1) := by decide +kernel
theorem dX7_keep_33 : decode cX7_keep 33 = .ok (.iadd, 1) := by decide +kernel
theorem dX7_keep_34 : decode cX7_keep 34 = .ok (.iload_n 2, 1) := by decide +kernel
theorem dX7_keep_35 : decode cX7_keep 35 = .ok (.iastore, 1) := by decide +kernel
theorem dX7_keep_36 : decode cX7_keep 36 = .ok (.aload_n 0, 1) := by decide +kernel
theorem dX7_keep_37 : decode cX7_keep 37 = .ok (.getfield 54, 3) := by decide +kernel
theorem dX7_keep_40 : decode cX7_keep 40 = .ok (.bipush 6, 2) := by decide +kernel
theorem dX7_keep_42 : decode cX7_keep 42 = .ok (.aload_n 0, 1) := by decide +kernel
theorem dX7_keep_43 : decode cX7_keep 43 = .ok (.getfield 119, 3) := by decide +kernel
theorem dX7_keep_46 : decode cX7_keep 46 = .ok (.imul, 1) := by decide +kernel
theorem dX7_keep_47 : decode cX7_keep 47 = .ok (.iconst 2, 1) := by decide +kernel
theorem dX7_keep_48 : decode cX7_keep 48 = .ok (.iadd, 1) := by decide +kernel
theorem dX7_keep_49 : decode cX7_keep 49 = .ok (.iload_n 3, 1) := by decide +kernel
theorem dX7_keep_50 : decode cX7_keep 50 = .ok (.iastore, 1) := by decide +kernel
theorem dX7_keep_51 : decode cX7_keep 51 = .ok (.aload_n 0, 1) := by decide +kernel
theorem dX7_keep_52 : decode cX7_keep 52 = .ok (.getfield 54, 3) := by decide +kernel
theorem dX7_keep_55 : decode cX7_keep 55 = .ok (.bipush 6, 2) := by decide +kernel
theorem dX7_keep_57 : decode cX7_keep 57 = .ok (.aload_n 0, 1) := by decide +kernel
theorem dX7_keep_58 : decode cX7_keep 58 = .ok (.getfield 119, 3) := by decide +kernel
theorem dX7_keep_61 : decode cX7_keep 61 = .ok (.imul, 1) := by decide +kernel
theorem dX7_keep_62 : decode cX7_keep 62 = .ok (.iconst 3, 1) := by decide +kernel
theorem dX7_keep_63 : decode cX7_keep 63 = .ok (.iadd, 1) := by decide +kernel
theorem dX7_keep_64 : decode cX7_keep 64 = .ok (.aload_n 0, 1) := by decide +kernel
theorem dX7_keep_65 : decode cX7_keep 65 = .ok (.getfield 33, 3) := by decide +kernel
theorem dX7_keep_68 : decode cX7_keep 68 = .ok (.iload 5, 2) := by decide +kernel
theorem dX7_keep_70 : decode cX7_keep 70 = .ok (.iaload, 1) := by decide +kernel
theorem dX7_keep_71 : decode cX7_keep 71 = .ok (.iastore, 1) := by decide +kernel
theorem dX7_keep_72 : decode cX7_keep 72 = .ok (.aload_n 0, 1) := by decide +kernel
theorem dX7_keep_73 : decode cX7_keep 73 = .ok (.getfield 54, 3) := by decide +kernel
theorem dX7_keep_76 : decode cX7_keep 76 = .ok (.bipush 6, 2) := by decide +kernel
theorem dX7_keep_78 : decode cX7_keep 78 = .ok (.aload_n 0, 1) := by decide +kernel
theorem dX7_keep_79 : decode cX7_keep 79 = .ok (.getfield 119, 3) := by decide +kernel
theorem dX7_keep_82 : decode cX7_keep 82 = .ok (.imul, 1) := by decide +kernel
theorem dX7_keep_83 : decode cX7_keep 83 = .ok (.iconst 4, 1) := by decide +kernel
theorem dX7_keep_84 : decode cX7_keep 84 = .ok (.iadd, 1) := by decide +kernel
theorem dX7_keep_85 : decode cX7_keep 85 = .ok (.aload_n 0, 1) := by decide +kernel
theorem dX7_keep_86 : decode cX7_keep 86 = .ok (.getfield 36, 3) := by decide +kernel
theorem dX7_keep_89 : decode cX7_keep 89 = .ok (.iload 5, 2) := by decide +kernel
theorem dX7_keep_91 : decode cX7_keep 91 = .ok (.iaload, 1) := by decide +kernel
theorem dX7_keep_92 : decode cX7_keep 92 = .ok (.iastore, 1) := by decide +kernel
theorem dX7_keep_93 : decode cX7_keep 93 = .ok (.aload_n 0, 1) := by decide +kernel
theorem dX7_keep_94 : decode cX7_keep 94 = .ok (.getfield 54, 3) := by decide +kernel
theorem dX7_keep_97 : decode cX7_keep 97 = .ok (.bipush 6, 2) := by decide +kernel
theorem dX7_keep_99 : decode cX7_keep 99 = .ok (.aload_n 0, 1) := by decide +kernel
theorem dX7_keep_100 : decode cX7_keep 100 = .ok (.getfield 119, 3) := by decide +kernel
theorem dX7_keep_103 : decode cX7_keep 103 = .ok (.imul, 1) := by decide +kernel
theorem dX7_keep_104 : decode cX7_keep 104 = .ok (.iconst 5, 1) := by decide +kernel
theorem dX7_keep_105 : decode cX7_keep 105 = .ok (.iadd, 1) := by decide +kernel
theorem dX7_keep_106 : decode cX7_keep 106 = .ok (.iload 4, 2) := by decide +kernel
theorem dX7_keep_108 : decode cX7_keep 108 = .ok (.iastore, 1) := by decide +kernel
theorem dX7_keep_109 : decode cX7_keep 109 = .ok (.aload_n 0, 1) := by decide +kernel
theorem dX7_keep_110 : decode cX7_keep 110 = .ok (.dup, 1) := by decide +kernel
theorem dX7_keep_111 : decode cX7_keep 111 = .ok (.getfield 119, 3) := by decide +kernel
theorem dX7_keep_114 : decode cX7_keep 114 = .ok (.iconst 1, 1) := by decide +kernel
theorem dX7_keep_115 : decode cX7_keep 115 = .ok (.iadd, 1) := by decide +kernel
theorem dX7_keep_116 : decode cX7_keep 116 = .ok (.putfield 119, 3) := by decide +kernel
theorem dX7_keep_119 : decode cX7_keep 119 = .ok (.aload_n 0, 1) := by decide +kernel
theorem dX7_keep_120 : decode cX7_keep 120 = .ok (.getfield 119, 3) := by decide +kernel
theorem dX7_keep_123 : decode cX7_keep 123 = .ok (.iconst 1, 1) := by decide +kernel
theorem dX7_keep_124 : decode cX7_keep 124 = .ok (.isub, 1) := by decide +kernel
theorem dX7_keep_125 : decode cX7_keep 125 = .ok (.ireturn, 1) := by decide +kernel
theorem dX7_nameOfWord_0 : decode cX7_nameOfWord 0 = .ok (.iconst 0, 1) := by decide +kernel
theorem dX7_nameOfWord_1 : decode cX7_nameOfWord 1 = .ok (.istore_n 1, 1) := by decide +kernel
theorem dX7_nameOfWord_2 : decode cX7_nameOfWord 2 = .ok (.iload_n 1, 1) := by decide +kernel
theorem dX7_nameOfWord_3 : decode cX7_nameOfWord 3 = .ok (.aload_n 0, 1) := by decide +kernel
theorem dX7_nameOfWord_4 : decode cX7_nameOfWord 4 = .ok (.getfield 69, 3) := by decide +kernel
theorem dX7_nameOfWord_7 : decode cX7_nameOfWord 7 = .ok (.if_icmp .ge 80, 3) := by decide +kernel
theorem dX7_nameOfWord_10 : decode cX7_nameOfWord 10 = .ok (.aload_n 0, 1) := by decide +kernel
theorem dX7_nameOfWord_11 : decode cX7_nameOfWord 11 = .ok (.getfield 60, 3) := by decide +kernel
theorem dX7_nameOfWord_14 : decode cX7_nameOfWord 14 = .ok (.iload_n 1, 1) := by decide +kernel
theorem dX7_nameOfWord_15 : decode cX7_nameOfWord 15 = .ok (.iaload, 1) := by decide +kernel
theorem dX7_nameOfWord_16 : decode cX7_nameOfWord 16 = .ok (.aload_n 0, 1) := by decide +kernel
theorem dX7_nameOfWord_17 : decode cX7_nameOfWord 17 = .ok (.getfield 122, 3) := by decide +kernel
theorem dX7_nameOfWord_20 : decode cX7_nameOfWord 20 = .ok (.if_icmp .ne 7, 3) := by decide +kernel
theorem dX7_nameOfWord_23 : decode cX7_nameOfWord 23 = .ok (.iconst 1, 1) := by decide +kernel
theorem dX7_nameOfWord_24 : decode cX7_nameOfWord 24 = .ok (.goto 4, 3) := by decide +kernel
theorem dX7_nameOfWord_27 : decode cX7_nameOfWord 27 = .ok (.iconst 0, 1) := by decide +kernel
theorem dX7_nameOfWord_28 : decode cX7_nameOfWord 28 = .ok (.istore_n 2, 1) := by decide +kernel
theorem dX7_nameOfWord_29 : decode cX7_nameOfWord 29 = .ok (.iconst 0, 1) := by decide +kernel
theorem dX7_nameOfWord_30 : decode cX7_nameOfWord 30 = .ok (.istore_n 3, 1) := by decide +kernel
theorem dX7_nameOfWord_31 : decode cX7_nameOfWord 31 = .ok (.iload_n 3, 1) := by decide +kernel
theorem dX7_nameOfWord_32 : decode cX7_nameOfWord 32 = .ok (.aload_n 0, 1) := by decide +kernel
theorem dX7_nameOfWord_33 : decode cX7_nameOfWord 33 = .ok (.getfield 122, 3) := by decide +kernel
theorem dX7_nameOfWord_36 : decode cX7_nameOfWord 36 = .ok (.if_icmp .ge 39, 3) := by decide +kernel
theorem dX7_nameOfWord_39 : decode cX7_nameOfWord 39 = .ok (.iload_n 2, 1) := by decide +kernel
theorem dX7_nameOfWord_40 : decode cX7_nameOfWord 40 = .ok (.ifCond .eq 35, 3) := by decide +kernel
theorem dX7_nameOfWord_43 : decode cX7_nameOfWord 43 = .ok (.aload_n 0, 1) := by decide +kernel
theorem dX7_nameOfWord_44 : decode cX7_nameOfWord 44 = .ok (.getfield 57, 3) := by decide +kernel
theorem dX7_nameOfWord_47 : decode cX7_nameOfWord 47 = .ok (.bipush 40, 2) := by decide +kernel
theorem dX7_nameOfWord_49 : decode cX7_nameOfWord 49 = .ok (.iload_n 1, 1) := by decide +kernel
theorem dX7_nameOfWord_50 : decode cX7_nameOfWord 50 = .ok (.imul, 1) := by decide +kernel
theorem dX7_nameOfWord_51 : decode cX7_nameOfWord 51 = .ok (.iload_n 3, 1) := by decide +kernel
theorem dX7_nameOfWord_52 : decode cX7_nameOfWord 52 = .ok (.iadd, 1) := by decide +kernel
theorem dX7_nameOfWord_53 : decode cX7_nameOfWord 53 = .ok (.iaload, 1) := by decide +kernel
theorem dX7_nameOfWord_54 : decode cX7_nameOfWord 54 = .ok (.aload_n 0, 1) := by decide +kernel
theorem dX7_nameOfWord_55 : decode cX7_nameOfWord 55 = .ok (.getfield 66, 3) := by decide +kernel
theorem dX7_nameOfWord_58 : decode cX7_nameOfWord 58 = .ok (.iload_n 3, 1) := by decide +kernel
theorem dX7_nameOfWord_59 : decode cX7_nameOfWord 59 = .ok (.iaload, 1) := by decide +kernel
theorem dX7_nameOfWord_60 : decode cX7_nameOfWord 60 = .ok (.if_icmp .ne 7, 3) := by decide +kernel
theorem dX7_nameOfWord_63 : decode cX7_nameOfWord 63 = .ok (.iconst 1, 1) := by decide +kernel
theorem dX7_nameOfWord_64 : decode cX7_nameOfWord 64 = .ok (.goto 4, 3) := by decide +kernel
theorem dX7_nameOfWord_67 : decode cX7_nameOfWord 67 = .ok (.iconst 0, 1) := by decide +kernel
theorem dX7_nameOfWord_68 : decode cX7_nameOfWord 68 = .ok (.istore_n 2, 1) := by decide +kernel
theorem dX7_nameOfWord_69 : decode cX7_nameOfWord 69 = .ok (.iinc 3 1, 3) := by decide +kernel
theorem dX7_nameOfWord_72 : decode cX7_nameOfWord 72 = .ok (.goto (-41), 3) := by decide +kernel
theorem dX7_nameOfWord_75 : decode cX7_nameOfWord 75 = .ok (.iload_n 2, 1) := by decide +kernel
theorem dX7_nameOfWord_76 : decode cX7_nameOfWord 76 = .ok (.ifCond .eq 5, 3) := by decide +kernel
theorem dX7_nameOfWord_79 : decode cX7_nameOfWord 79 = .ok (.iload_n 1, 1) := by decide +kernel
theorem dX7_nameOfWord_80 : decode cX7_nameOfWord 80 = .ok (.ireturn, 1) := by decide +kernel
theorem dX7_nameOfWord_81 : decode cX7_nameOfWord 81 = .ok (.iinc 1 1, 3) := by decide +kernel
theorem dX7_nameOfWord_84 : decode cX7_nameOfWord 84 = .ok (.goto (-82), 3) := by decide +kernel
theorem dX7_nameOfWord_87 : decode cX7_nameOfWord 87 = .ok (.aload_n 0, 1) := by decide +kernel
theorem dX7_nameOfWord_88 : decode cX7_nameOfWord 88 = .ok (.getfield 69, 3) := by decide +kernel
theorem dX7_nameOfWord_91 : decode cX7_nameOfWord 91 = .ok (.sipush 150, 3) := by decide +kernel
theorem dX7_nameOfWord_94 : decode cX7_nameOfWord 94 = .ok (.if_icmp .ne 5, 3) := by decide +kernel
theorem dX7_nameOfWord_97 : decode cX7_nameOfWord 97 = .ok (.iconst (-1), 1) := by decide +kernel
theorem dX7_nameOfWord_98 : decode cX7_nameOfWord 98 = .ok (.ireturn, 1) := by decide +kernel
theorem dX7_nameOfWord_99 : decode cX7_nameOfWord 99 = .ok (.iconst 0, 1) := by decide +kernel
theorem dX7_nameOfWord_100 : decode cX7_nameOfWord 100 = .ok (.istore_n 1, 1) := by decide +kernel
theorem dX7_nameOfWord_101 : decode cX7_nameOfWord 101 = .ok (.iload_n 1, 1) := by decide +kernel
theorem dX7_nameOfWord_102 : decode cX7_nameOfWord 102 = .ok (.aload_n 0, 1) := by decide +kernel
theorem dX7_nameOfWord_103 : decode cX7_nameOfWord 103 = .ok (.getfield 122, 3) := by decide +kernel
theorem dX7_nameOfWord_106 : decode cX7_nameOfWord 106 = .ok (.if_icmp .ge 29, 3) := by decide +kernel
theorem dX7_nameOfWord_109 : decode cX7_nameOfWord 109 = .ok (.aload_n 0, 1) := by decide +kernel
theorem dX7_nameOfWord_110 : decode cX7_nameOfWord 110 = .ok (.getfield 57, 3) := by decide +kernel
theorem dX7_nameOfWord_113 : decode cX7_nameOfWord 113 = .ok (.bipush 40, 2) := by decide +kernel
theorem dX7_nameOfWord_115 : decode cX7_nameOfWord 115 = .ok (.aload_n 0, 1) := by decide +kernel
theorem dX7_nameOfWord_116 : decode cX7_nameOfWord 116 = .ok (.getfield 69, 3) := by decide +kernel
theorem dX7_nameOfWord_119 : decode cX7_nameOfWord 119 = .ok (.imul, 1) := by decide +kernel
theorem dX7_nameOfWord_120 : decode cX7_nameOfWord 120 = .ok (.iload_n 1, 1) := by decide +kernel
theorem dX7_nameOfWord_121 : decode cX7_nameOfWord 121 = .ok (.iadd, 1) := by decide +kernel
theorem dX7_nameOfWord_122 : decode cX7_nameOfWord 122 = .ok (.aload_n 0, 1) := by decide +kernel
theorem dX7_nameOfWord_123 : decode cX7_nameOfWord 123 = .ok (.getfield 66, 3) := by decide +kernel
theorem dX7_nameOfWord_126 : decode cX7_nameOfWord 126 = .ok (.iload_n 1, 1) := by decide +kernel
theorem dX7_nameOfWord_127 : decode cX7_nameOfWord 127 = .ok (.iaload, 1) := by decide +kernel
theorem dX7_nameOfWord_128 : decode cX7_nameOfWord 128 = .ok (.iastore, 1) := by decide +kernel
theorem dX7_nameOfWord_129 : decode cX7_nameOfWord 129 = .ok (.iinc 1 1, 3) := by decide +kernel
theorem dX7_nameOfWord_132 : decode cX7_nameOfWord 132 = .ok (.goto (-31), 3) := by decide +kernel
theorem dX7_nameOfWord_135 : decode cX7_nameOfWord 135 = .ok (.aload_n 0, 1) := by decide +kernel
theorem dX7_nameOfWord_136 : decode cX7_nameOfWord 136 = .ok (.getfield 60, 3) := by decide +kernel
theorem dX7_nameOfWord_139 : decode cX7_nameOfWord 139 = .ok (.aload_n 0, 1) := by decide +kernel
theorem dX7_nameOfWord_140 : decode cX7_nameOfWord 140 = .ok (.getfield 69, 3) := by decide +kernel
theorem dX7_nameOfWord_143 : decode cX7_nameOfWord 143 = .ok (.aload_n 0, 1) := by decide +kernel
theorem dX7_nameOfWord_144 : decode cX7_nameOfWord 144 = .ok (.getfield 122, 3) := by decide +kernel
theorem dX7_nameOfWord_147 : decode cX7_nameOfWord 147 = .ok (.iastore, 1) := by decide +kernel
theorem dX7_nameOfWord_148 : decode cX7_nameOfWord 148 = .ok (.aload_n 0, 1) := by decide +kernel
theorem dX7_nameOfWord_149 : decode cX7_nameOfWord 149 = .ok (.dup, 1) := by decide +kernel
theorem dX7_nameOfWord_150 : decode cX7_nameOfWord 150 = .ok (.getfield 69, 3) := by decide +kernel
theorem dX7_nameOfWord_153 : decode cX7_nameOfWord 153 = .ok (.iconst 1, 1) := by decide +kernel
theorem dX7_nameOfWord_154 : decode cX7_nameOfWord 154 = .ok (.iadd, 1) := by decide +kernel
theorem dX7_nameOfWord_155 : decode cX7_nameOfWord 155 = .ok (.putfield 69, 3) := by decide +kernel
theorem dX7_nameOfWord_158 : decode cX7_nameOfWord 158 = .ok (.aload_n 0, 1) := by decide +kernel
theorem dX7_nameOfWord_159 : decode cX7_nameOfWord 159 = .ok (.getfield 69, 3) := by decide +kernel
theorem dX7_nameOfWord_162 : decode cX7_nameOfWord 162 = .ok (.iconst 1, 1) := by decide +kernel
theorem dX7_nameOfWord_163 : decode cX7_nameOfWord 163 = .ok (.isub, 1) := by decide +kernel
theorem dX7_nameOfWord_164 : decode cX7_nameOfWord 164 = .ok (.ireturn, 1) := by decide +kernel
theorem dX7_addToWord_0 : decode cX7_addToWord 0 = .ok (.iload_n 1, 1) := by decide +kernel
theorem dX7_addToWord_1 : decode cX7_addToWord 1 = .ok (.bipush 40, 2) := by decide +kernel
theorem dX7_addToWord_3 : decode cX7_addToWord 3 = .ok (.if_icmp .ge 20, 3) := by decide +kernel
theorem dX7_addToWord_6 : decode cX7_addToWord 6 = .ok (.aload_n 0, 1) := by decide +kernel
theorem dX7_addToWord_7 : decode cX7_addToWord 7 = .ok (.getfield 66, 3) := by decide +kernel
theorem dX7_addToWord_10 : decode cX7_addToWord 10 = .ok (.iload_n 1, 1) := by decide +kernel
theorem dX7_addToWord_11 : decode cX7_addToWord 11 = .ok (.aload_n 0, 1) := by decide +kernel
theorem dX7_addToWord_12 : decode cX7_addToWord 12 = .ok (.getfield 104, 3) := by decide +kernel
theorem dX7_addToWord_15 : decode cX7_addToWord 15 = .ok (.iastore, 1) := by decide +kernel
theorem dX7_addToWord_16 : decode cX7_addToWord 16 = .ok (.aload_n 0, 1) := by decide +kernel
theorem dX7_addToWord_17 : decode cX7_addToWord 17 = .ok (.iload_n 1, 1) := by decide +kernel
theorem dX7_addToWord_18 : decode cX7_addToWord 18 = .ok (.iconst 1, 1) := by decide +kernel
theorem dX7_addToWord_19 : decode cX7_addToWord 19 = .ok (.iadd, 1) := by decide +kernel
theorem dX7_addToWord_20 : decode cX7_addToWord 20 = .ok (.putfield 122, 3) := by decide +kernel
theorem dX7_addToWord_23 : decode cX7_addToWord 23 = .ok (.return_, 1) := by decide +kernel
theorem dX7_readWord_0 : decode cX7_readWord 0 = .ok (.aload_n 0, 1) := by decide +kernel
theorem dX7_readWord_1 : decode cX7_readWord 1 = .ok (.getfield 90, 3) := by decide +kernel
theorem dX7_readWord_4 : decode cX7_readWord 4 = .ok (.iconst 1, 1) := by decide +kernel
theorem dX7_readWord_5 : decode cX7_readWord 5 = .ok (.isub, 1) := by decide +kernel
theorem dX7_readWord_6 : decode cX7_readWord 6 = .ok (.istore_n 2, 1) := by decide +kernel
theorem dX7_readWord_7 : decode cX7_readWord 7 = .ok (.iload_n 1, 1) := by decide +kernel
theorem dX7_readWord_8 : decode cX7_readWord 8 = .ok (.istore_n 3, 1) := by decide +kernel
theorem dX7_readWord_9 : decode cX7_readWord 9 = .ok (.iconst 0, 1) := by decide +kernel
theorem dX7_readWord_10 : decode cX7_readWord 10 = .ok (.istore 4, 2) := by decide +kernel
theorem dX7_readWord_12 : decode cX7_readWord 12 = .ok (.aload_n 0, 1) := by decide +kernel
theorem dX7_readWord_13 : decode cX7_readWord 13 = .ok (.iconst 0, 1) := by decide +kernel
theorem dX7_readWord_14 : decode cX7_readWord 14 = .ok (.putfield 122, 3) := by decide +kernel
theorem dX7_readWord_17 : decode cX7_readWord 17 = .ok (.aload_n 0, 1) := by decide +kernel
theorem dX7_readWord_18 : decode cX7_readWord 18 = .ok (.getfield 48, 3) := by decide +kernel
theorem dX7_readWord_21 : decode cX7_readWord 21 = .ok (.iload_n 2, 1) := by decide +kernel
theorem dX7_readWord_22 : decode cX7_readWord 22 = .ok (.iconst 1, 1) := by decide +kernel
theorem dX7_readWord_23 : decode cX7_readWord 23 = .ok (.iastore, 1) := by decide +kernel
theorem dX7_readWord_24 : decode cX7_readWord 24 = .ok (.aload_n 0, 1) := by decide +kernel
theorem dX7_readWord_25 : decode cX7_readWord 25 = .ok (.iload_n 3, 1) := by decide +kernel
theorem dX7_readWord_26 : decode cX7_readWord 26 = .ok (.invokevirtual 100, 3) := by decide +kernel
theorem dX7_readWord_29 : decode cX7_readWord 29 = .ok (.ifCond .ge 5, 3) := by decide +kernel
theorem dX7_readWord_32 : decode cX7_readWord 32 = .ok (.iload_n 3, 1) := by decide +kernel
theorem dX7_readWord_33 : decode cX7_readWord 33 = .ok (.ireturn, 1) := by decide +kernel
theorem dX7_readWord_34 : decode cX7_readWord 34 = .ok (.aload_n 0, 1) := by decide +kernel
theorem dX7_readWord_35 : decode cX7_readWord 35 = .ok (.iload_n 3, 1) := by decide +kernel
theorem dX7_readWord_36 : decode cX7_readWord 36 = .ok (.invokevirtual 125, 3) := by decide +kernel
theorem dX7_readWord_39 : decode cX7_readWord 39 = .ok (.aload_n 0, 1) := by decide +kernel
theorem dX7_readWord_40 : decode cX7_readWord 40 = .ok (.getfield 7, 3) := by decide +kernel
theorem dX7_readWord_43 : decode cX7_readWord 43 = .ok (.aload_n 0, 1) := by decide +kernel
theorem dX7_readWord_44 : decode cX7_readWord 44 = .ok (.getfield 104, 3) := by decide +kernel
theorem dX7_readWord_47 : decode cX7_readWord 47 = .ok (.iaload, 1) := by decide +kernel
theorem dX7_readWord_48 : decode cX7_readWord 48 = .ok (.bipush 11, 2) := by decide +kernel
theorem dX7_readWord_50 : decode cX7_readWord 50 = .ok (.if_icmp .eq 40, 3) := by decide +kernel
theorem dX7_readWord_53 : decode cX7_readWord 53 = .ok (.aload_n 0, 1) := by decide +kernel
theorem dX7_readWord_54 : decode cX7_readWord 54 = .ok (.iconst 0, 1) := by decide +kernel
theorem dX7_readWord_55 : decode cX7_readWord 55 = .ok (.invokevirtual 129, 3) := by decide +kernel
theorem dX7_readWord_58 : decode cX7_readWord 58 = .ok (.aload_n 0, 1) := by decide +kernel
theorem dX7_readWord_59 : decode cX7_readWord 59 = .ok (.getfield 48, 3) := by decide +kernel
theorem dX7_readWord_62 : decode cX7_readWord 62 = .ok (.iload_n 2, 1) := by decide +kernel
theorem dX7_readWord_63 : decode cX7_readWord 63 = .ok (.aload_n 0, 1) := by decide +kernel
theorem dX7_readWord_64 : decode cX7_readWord 64 = .ok (.getfield 7, 3) := by decide +kernel
theorem dX7_readWord_67 : decode cX7_readWord 67 = .ok (.aload_n 0, 1) := by decide +kernel
theorem dX7_readWord_68 : decode cX7_readWord 68 = .ok (.getfield 104, 3) := by decide +kernel
theorem dX7_readWord_71 : decode cX7_readWord 71 = .ok (.iaload, 1) := by decide +kernel
theorem dX7_readWord_72 : decode cX7_readWord 72 = .ok (.bipush 10, 2) := by decide +kernel
theorem dX7_readWord_74 : decode cX7_readWord 74 = .ok (.if_icmp .ne 7, 3) := by decide +kernel
theorem dX7_readWord_77 : decode cX7_readWord 77 = .ok (.iconst 2, 1) := by decide +kernel
theorem dX7_readWord_78 : decode cX7_readWord 78 = .ok (.goto 4, 3) := by decide +kernel
theorem dX7_readWord_81 : decode cX7_readWord 81 = .ok (.iconst 1, 1) := by decide +kernel
theorem dX7_readWord_82 : decode cX7_readWord 82 = .ok (.iastore, 1) := by decide +kernel
theorem dX7_readWord_83 : decode cX7_readWord 83 = .ok (.iload_n 3, 1) := by decide +kernel
theorem dX7_readWord_84 : decode cX7_readWord 84 = .ok (.aload_n 0, 1) := by decide +kernel
theorem dX7_readWord_85 : decode cX7_readWord 85 = .ok (.getfield 107, 3) := by decide +kernel
theorem dX7_readWord_88 : decode cX7_readWord 88 = .ok (.iadd, 1) := by decide +kernel
theorem dX7_readWord_89 : decode cX7_readWord 89 = .ok (.ireturn, 1) := by decide +kernel
theorem dX7_readWord_90 : decode cX7_readWord 90 = .ok (.iconst 1, 1) := by decide +kernel
theorem dX7_readWord_91 : decode cX7_readWord 91 = .ok (.istore 5, 2) := by decide +kernel
theorem dX7_readWord_93 : decode cX7_readWord 93 = .ok (.iload 5, 2) := by decide +kernel
theorem dX7_readWord_95 : decode cX7_readWord 95 = .ok (.ifCond .eq 68, 3) := by decide +kernel
theorem dX7_readWord_98 : decode cX7_readWord 98 = .ok (.aload_n 0, 1) := by decide +kernel
theorem dX7_readWord_99 : decode cX7_readWord 99 = .ok (.iload 4, 2) := by decide +kernel
theorem dX7_readWord_101 : decode cX7_readWord 101 = .ok (.invokevirtual 129, 3) := by decide +kernel
theorem dX7_readWord_104 : decode cX7_readWord 104 = .ok (.iinc 4 1, 3) := by decide +kernel
theorem dX7_readWord_107 : decode cX7_readWord 107 = .ok (.iload_n 3, 1) := by decide +kernel
theorem dX7_readWord_108 : decode cX7_readWord 108 = .ok (.aload_n 0, 1) := by decide +kernel
theorem dX7_readWord_109 : decode cX7_readWord 109 = .ok (.getfield 107, 3) := by decide +kernel
theorem dX7_readWord_112 : decode cX7_readWord 112 = .ok (.iadd, 1) := by decide +kernel
theorem dX7_readWord_113 : decode cX7_readWord 113 = .ok (.istore_n 3, 1) := by decide +kernel
theorem dX7_readWord_114 : decode cX7_readWord 114 = .ok (.aload_n 0, 1) := by decide +kernel
theorem dX7_readWord_115 : decode cX7_readWord 115 = .ok (.iload_n 3, 1) := by decide +kernel
theorem dX7_readWord_116 : decode cX7_readWord 116 = .ok (.invokevirtual 100, 3) := by decide +kernel
theorem dX7_readWord_119 : decode cX7_readWord 119 = .ok (.ifCond .lt 7, 3) := by decide +kernel
theorem dX7_readWord_122 : decode cX7_readWord 122 = .ok (.iconst 1, 1) := by decide +kernel
theorem dX7_readWord_123 : decode cX7_readWord 123 = .ok (.goto 4, 3) := by decide +kernel
theorem dX7_readWord_126 : decode cX7_readWord 126 = .ok (.iconst 0, 1) := by decide +kernel
theorem dX7_readWord_127 : decode cX7_readWord 127 = .ok (.istore 5, 2) := by decide +kernel
theorem dX7_readWord_129 : decode cX7_readWord 129 = .ok (.iload 5, 2) := by decide +kernel
theorem dX7_readWord_131 : decode cX7_readWord 131 = .ok (.ifCond .eq (-38), 3) := by decide +kernel
theorem dX7_readWord_134 : decode cX7_readWord 134 = .ok (.aload_n 0, 1) := by decide +kernel
theorem dX7_readWord_135 : decode cX7_readWord 135 = .ok (.iload_n 3, 1) := by decide +kernel
theorem dX7_readWord_136 : decode cX7_readWord 136 = .ok (.invokevirtual 125, 3) := by decide +kernel
theorem dX7_readWord_139 : decode cX7_readWord 139 = .ok (.aload_n 0, 1) := by decide +kernel
theorem dX7_readWord_140 : decode cX7_readWord 140 = .ok (.getfield 7, 3) := by decide +kernel
theorem dX7_readWord_143 : decode cX7_readWord 143 = .ok (.aload_n 0, 1) := by decide +kernel
theorem dX7_readWord_144 : decode cX7_readWord 144 = .ok (.getfield 104, 3) := by decide +kernel
theorem dX7_readWord_147 : decode cX7_readWord 147 = .ok (.iaload, 1) := by decide +kernel
theorem dX7_readWord_148 : decode cX7_readWord 148 = .ok (.bipush 11, 2) := by decide +kernel
theorem dX7_readWord_150 : decode cX7_readWord 150 = .ok (.if_icmp .ne 7, 3) := by decide +kernel
theorem dX7_readWord_153 : decode cX7_readWord 153 = .ok (.iconst 1, 1) := by decide +kernel
theorem dX7_readWord_154 : decode cX7_readWord 154 = .ok (.goto 4, 3) := by decide +kernel
theorem dX7_readWord_157 : decode cX7_readWord 157 = .ok (.iconst 0, 1) := by decide +kernel
theorem dX7_readWord_158 : decode cX7_readWord 158 = .ok (.istore 5, 2) := by decide +kernel
theorem dX7_readWord_160 : decode cX7_readWord 160 = .ok (.goto (-67), 3) := by decide +kernel
theorem dX7_readWord_163 : decode cX7_readWord 163 = .ok (.iload 4, 2) := by decide +kernel
theorem dX7_readWord_165 : decode cX7_readWord 165 = .ok (.bipush 40, 2) := by decide +kernel
theorem dX7_readWord_167 : decode cX7_readWord 167 = .ok (.if_icmp .le 9, 3) := by decide +kernel
theorem dX7_readWord_170 : decode cX7_readWord 170 = .ok (.aload_n 0, 1) := by decide +kernel
theorem dX7_readWord_171 : decode cX7_readWord 171 = .ok (.iconst 3, 1) := by decide +kernel
theorem dX7_readWord_172 : decode cX7_readWord 172 = .ok (.iconst 0, 1) := by decide +kernel
theorem dX7_readWord_173 : decode cX7_readWord 173 = .ok (.invokevirtual 132, 3) := by decide +kernel
theorem dX7_readWord_176 : decode cX7_readWord 176 = .ok (.aload_n 0, 1) := by decide +kernel
theorem dX7_readWord_177 : decode cX7_readWord 177 = .ok (.getfield 48, 3) := by decide +kernel
theorem dX7_readWord_180 : decode cX7_readWord 180 = .ok (.iload_n 2, 1) := by decide +kernel
theorem dX7_readWord_181 : decode cX7_readWord 181 = .ok (.iconst 2, 1) := by decide +kernel
theorem dX7_readWord_182 : decode cX7_readWord 182 = .ok (.iastore, 1) := by decide +kernel
theorem dX7_readWord_183 : decode cX7_readWord 183 = .ok (.iload_n 3, 1) := by decide +kernel
theorem dX7_readWord_184 : decode cX7_readWord 184 = .ok (.ireturn, 1) := by decide +kernel
theorem dX7_give_0 : decode cX7_give 0 = .ok (.aload_n 0, 1) := by decide +kernel
theorem dX7_give_1 : decode cX7_give 1 = .ok (.getfield 90, 3) := by decide +kernel
theorem dX7_give_4 : decode cX7_give 4 = .ok (.iconst 1, 1) := by decide +kernel
theorem dX7_give_5 : decode cX7_give 5 = .ok (.isub, 1) := by decide +kernel
theorem dX7_give_6 : decode cX7_give 6 = .ok (.istore_n 1, 1) := by decide +kernel
theorem dX7_give_7 : decode cX7_give 7 = .ok (.aload_n 0, 1) := by decide +kernel
theorem dX7_give_8 : decode cX7_give 8 = .ok (.getfield 45, 3) := by decide +kernel
theorem dX7_give_11 : decode cX7_give 11 = .ok (.iload_n 1, 1) := by decide +kernel
theorem dX7_give_12 : decode cX7_give 12 = .ok (.iaload, 1) := by decide +kernel
theorem dX7_give_13 : decode cX7_give 13 = .ok (.istore_n 2, 1) := by decide +kernel
theorem dX7_give_14 : decode cX7_give 14 = .ok (.aload_n 0, 1) := by decide +kernel
theorem dX7_give_15 : decode cX7_give 15 = .ok (.iload_n 2, 1) := by decide +kernel
theorem dX7_give_16 : decode cX7_give 16 = .ok (.invokevirtual 125, 3) := by decide +kernel
theorem dX7_give_19 : decode cX7_give 19 = .ok (.aload_n 0, 1) := by decide +kernel
theorem dX7_give_20 : decode cX7_give 20 = .ok (.getfield 104, 3) := by decide +kernel
theorem dX7_give_23 : decode cX7_give 23 = .ok (.istore_n 3, 1) := by decide +kernel
theorem dX7_give_24 : decode cX7_give 24 = .ok (.aload_n 0, 1) := by decide +kernel
theorem dX7_give_25 : decode cX7_give 25 = .ok (.getfield 7, 3) := by decide +kernel
theorem dX7_give_28 : decode cX7_give 28 = .ok (.iload_n 3, 1) := by decide +kernel
theorem dX7_give_29 : decode cX7_give 29 = .ok (.iaload, 1) := by decide +kernel
theorem dX7_give_30 : decode cX7_give 30 = .ok (.istore 4, 2) := by decide +kernel
theorem dX7_give_32 : decode cX7_give 32 = .ok (.aload_n 0, 1) := by decide +kernel
theorem dX7_give_33 : decode cX7_give 33 = .ok (.getfield 48, 3) := by decide +kernel
theorem dX7_give_36 : decode cX7_give 36 = .ok (.iload_n 1, 1) := by decide +kernel
theorem dX7_give_37 : decode cX7_give 37 = .ok (.iaload, 1) := by decide +kernel
theorem dX7_give_38 : decode cX7_give 38 = .ok (.istore 5, 2) := by decide +kernel
theorem dX7_give_40 : decode cX7_give 40 = .ok (.aload_n 0, 1) := by decide +kernel
theorem dX7_give_41 : decode cX7_give 41 = .ok (.getfield 45, 3) := by decide +kernel
theorem dX7_give_44 : decode cX7_give 44 = .ok (.iload_n 1, 1) := by decide +kernel
theorem dX7_give_45 : decode cX7_give 45 = .ok (.iload_n 2, 1) := by decide +kernel
theorem dX7_give_46 : decode cX7_give 46 = .ok (.aload_n 0, 1) := by decide +kernel
theorem dX7_give_47 : decode cX7_give 47 = .ok (.getfield 107, 3) := by decide +kernel
theorem dX7_give_50 : decode cX7_give 50 = .ok (.iadd, 1) := by decide +kernel
theorem dX7_give_51 : decode cX7_give 51 = .ok (.iastore, 1) := by decide +kernel
theorem dX7_give_52 : decode cX7_give 52 = .ok (.iload 4, 2) := by decide +kernel
theorem dX7_give_54 : decode cX7_give 54 = .ok (.ifCond .ne 45, 3) := by decide +kernel
theorem dX7_give_57 : decode cX7_give 57 = .ok (.aload_n 0, 1) := by decide +kernel
theorem dX7_give_58 : decode cX7_give 58 = .ok (.getfield 45, 3) := by decide +kernel
theorem dX7_give_61 : decode cX7_give 61 = .ok (.iload_n 1, 1) := by decide +kernel
theorem dX7_give_62 : decode cX7_give 62 = .ok (.aload_n 0, 1) := by decide +kernel
theorem dX7_give_63 : decode cX7_give 63 = .ok (.iload_n 2, 1) := by decide +kernel
theorem dX7_give_64 : decode cX7_give 64 = .ok (.aload_n 0, 1) := by decide +kernel
theorem dX7_give_65 : decode cX7_give 65 = .ok (.getfield 107, 3) := by decide +kernel
theorem dX7_give_68 : decode cX7_give 68 = .ok (.iadd, 1) := by decide +kernel
theorem dX7_give_69 : decode cX7_give 69 = .ok (.invokevirtual 135, 3) := by decide +kernel
theorem dX7_give_72 : decode cX7_give 72 = .ok (.iastore, 1) := by decide +kernel
theorem dX7_give_73 : decode cX7_give 73 = .ok (.aload_n 0, 1) := by decide +kernel
theorem dX7_give_74 : decode cX7_give 74 = .ok (.invokevirtual 138, 3) := by decide +kernel
theorem dX7_give_77 : decode cX7_give 77 = .ok (.istore 6, 2) := by decide +kernel
theorem dX7_give_79 : decode cX7_give 79 = .ok (.iload 6, 2) := by decide +kernel
theorem dX7_give_81 : decode cX7_give 81 = .ok (.ifCond .ge 8, 3) := by decide +kernel
theorem dX7_give_84 : decode cX7_give 84 = .ok (.bipush (-4), 2) := by decide +kernel
theorem dX7_give_86 : decode cX7_give 86 = .ok (.goto 12, 3) := by decide +kernel
theorem dX7_give_89 : decode cX7_give 89 = .ok (.aload_n 0, 1) := by decide +kernel
theorem dX7_give_90 : decode cX7_give 90 = .ok (.iconst 1, 1) := by decide +kernel
theorem dX7_give_91 : decode cX7_give 91 = .ok (.iload 6, 2) := by decide +kernel
theorem dX7_give_93 : decode cX7_give 93 = .ok (.iconst 0, 1) := by decide +kernel
theorem dX7_give_94 : decode cX7_give 94 = .ok (.iload_n 2, 1) := by decide +kernel
theorem dX7_give_95 : decode cX7_give 95 = .ok (.invokevirtual 142, 3) := by decide +kernel
theorem dX7_give_98 : decode cX7_give 98 = .ok (.ireturn, 1) := by decide +kernel
theorem dX7_give_99 : decode cX7_give 99 = .ok (.iload 4, 2) := by decide +kernel
theorem dX7_give_101 : decode cX7_give 101 = .ok (.iconst 5, 1) := by decide +kernel
theorem dX7_give_102 : decode cX7_give 102 = .ok (.if_icmp .ne 47, 3) := by decide +kernel
theorem dX7_give_105 : decode cX7_give 105 = .ok (.aload_n 0, 1) := by decide +kernel
theorem dX7_give_106 : decode cX7_give 106 = .ok (.getfield 48, 3) := by decide +kernel
theorem dX7_give_109 : decode cX7_give 109 = .ok (.iload_n 1, 1) := by decide +kernel
theorem dX7_give_110 : decode cX7_give 110 = .ok (.iconst (-1), 1) := by decide +kernel
theorem dX7_give_111 : decode cX7_give 111 = .ok (.iastore, 1) := by decide +kernel
theorem dX7_give_112 : decode cX7_give 112 = .ok (.iload 5, 2) := by decide +kernel
theorem dX7_give_114 : decode cX7_give 114 = .ok (.ifCond .ne 14, 3) := by decide +kernel
theorem dX7_give_117 : decode cX7_give 117 = .ok (.aload_n 0, 1) := by decide +kernel
theorem dX7_give_118 : decode cX7_give 118 = .ok (.iconst 1, 1) := by decide +kernel
theorem dX7_give_119 : decode cX7_give 119 = .ok (.iconst 0, 1) := by decide +kernel
theorem dX7_give_120 : decode cX7_give 120 = .ok (.iconst 0, 1) := by decide +kernel
theorem dX7_give_121 : decode cX7_give 121 = .ok (.iload_n 2, 1) := by decide +kernel
theorem dX7_give_122 : decode cX7_give 122 = .ok (.invokevirtual 142, 3) := by decide +kernel
theorem dX7_give_125 : decode cX7_give 125 = .ok (.goto 23, 3) := by decide +kernel
theorem dX7_give_128 : decode cX7_give 128 = .ok (.iload 5, 2) := by decide +kernel
theorem dX7_give_130 : decode cX7_give 130 = .ok (.iconst 1, 1) := by decide +kernel
theorem dX7_give_131 : decode cX7_give 131 = .ok (.if_icmp .ne 16, 3) := by decide +kernel
theorem dX7_give_134 : decode cX7_give 134 = .ok (.aload_n 0, 1) := by decide +kernel
theorem dX7_give_135 : decode cX7_give 135 = .ok (.iconst 0, 1) := by decide +kernel
theorem dX7_give_136 : decode cX7_give 136 = .ok (.bipush 32, 2) := by decide +kernel
theorem dX7_give_138 : decode cX7_give 138 = .ok (.bipush 10, 2) := by decide +kernel
theorem dX7_give_140 : decode cX7_give 140 = .ok (.iload_n 2, 1) := by decide +kernel
theorem dX7_give_141 : decode cX7_give 141 = .ok (.invokevirtual 142, 3) := by decide +kernel
theorem dX7_give_144 : decode cX7_give 144 = .ok (.goto 4, 3) := by decide +kernel
theorem dX7_give_147 : decode cX7_give 147 = .ok (.iconst (-1), 1) := by decide +kernel
theorem dX7_give_148 : decode cX7_give 148 = .ok (.ireturn, 1) := by decide +kernel
theorem dX7_give_149 : decode cX7_give 149 = .ok (.iload 4, 2) := by decide +kernel
theorem dX7_give_151 : decode cX7_give 151 = .ok (.bipush 9, 2) := by decide +kernel
theorem dX7_give_153 : decode cX7_give 153 = .ok (.if_icmp .ne 5, 3) := by decide +kernel
theorem dX7_give_156 : decode cX7_give 156 = .ok (.iconst (-1), 1) := by decide +kernel
theorem dX7_give_157 : decode cX7_give 157 = .ok (.ireturn, 1) := by decide +kernel
theorem dX7_give_158 : decode cX7_give 158 = .ok (.iload 4, 2) := by decide +kernel
theorem dX7_give_160 : decode cX7_give 160 = .ok (.bipush 10, 2) := by decide +kernel
theorem dX7_give_162 : decode cX7_give 162 = .ok (.if_icmp .ne 42, 3) := by decide +kernel
theorem dX7_give_165 : decode cX7_give 165 = .ok (.aload_n 0, 1) := by decide +kernel
theorem dX7_give_166 : decode cX7_give 166 = .ok (.getfield 48, 3) := by decide +kernel
theorem dX7_give_169 : decode cX7_give 169 = .ok (.iload_n 1, 1) := by decide +kernel
theorem dX7_give_170 : decode cX7_give 170 = .ok (.iload 5, 2) := by decide +kernel
theorem dX7_give_172 : decode cX7_give 172 = .ok (.iconst 1, 1) := by decide +kernel
theorem dX7_give_173 : decode cX7_give 173 = .ok (.if_icmp .ne 7, 3) := by decide +kernel
theorem dX7_give_176 : decode cX7_give 176 = .ok (.iconst 2, 1) := by decide +kernel
theorem dX7_give_177 : decode cX7_give 177 = .ok (.goto 5, 3) := by decide +kernel
theorem dX7_give_180 : decode cX7_give 180 = .ok (.iload 5, 2) := by decide +kernel
theorem dX7_give_182 : decode cX7_give 182 = .ok (.iastore, 1) := by decide +kernel
theorem dX7_give_183 : decode cX7_give 183 = .ok (.iload 5, 2) := by decide +kernel
theorem dX7_give_185 : decode cX7_give 185 = .ok (.iconst 1, 1) := by decide +kernel
theorem dX7_give_186 : decode cX7_give 186 = .ok (.if_icmp .ne 16, 3) := by decide +kernel
theorem dX7_give_189 : decode cX7_give 189 = .ok (.aload_n 0, 1) := by decide +kernel
theorem dX7_give_190 : decode cX7_give 190 = .ok (.iconst 0, 1) := by decide +kernel
theorem dX7_give_191 : decode cX7_give 191 = .ok (.bipush 32, 2) := by decide +kernel
theorem dX7_give_193 : decode cX7_give 193 = .ok (.bipush 10, 2) := by decide +kernel
theorem dX7_give_195 : decode cX7_give 195 = .ok (.iload_n 2, 1) := by decide +kernel
theorem dX7_give_196 : decode cX7_give 196 = .ok (.invokevirtual 142, 3) := by decide +kernel
theorem dX7_give_199 : decode cX7_give 199 = .ok (.goto 4, 3) := by decide +kernel
theorem dX7_give_202 : decode cX7_give 202 = .ok (.iconst (-1), 1) := by decide +kernel
theorem dX7_give_203 : decode cX7_give 203 = .ok (.ireturn, 1) := by decide +kernel
theorem dX7_give_204 : decode cX7_give 204 = .ok (.iload 4, 2) := by decide +kernel
theorem dX7_give_206 : decode cX7_give 206 = .ok (.bipush 14, 2) := by decide +kernel
theorem dX7_give_208 : decode cX7_give 208 = .ok (.if_icmp .ne 12, 3) := by decide +kernel
theorem dX7_give_211 : decode cX7_give 211 = .ok (.aload_n 0, 1) := by decide +kernel
theorem dX7_give_212 : decode cX7_give 212 = .ok (.getfield 48, 3) := by decide +kernel
theorem dX7_give_215 : decode cX7_give 215 = .ok (.iload_n 1, 1) := by decide +kernel
theorem dX7_give_216 : decode cX7_give 216 = .ok (.iconst (-1), 1) := by decide +kernel
theorem dX7_give_217 : decode cX7_give 217 = .ok (.iastore, 1) := by decide +kernel
theorem dX7_give_218 : decode cX7_give 218 = .ok (.iconst (-1), 1) := by decide +kernel
theorem dX7_give_219 : decode cX7_give 219 = .ok (.ireturn, 1) := by decide +kernel
theorem dX7_give_220 : decode cX7_give 220 = .ok (.iload 4, 2) := by decide +kernel
theorem dX7_give_222 : decode cX7_give 222 = .ok (.bipush 15, 2) := by decide +kernel
theorem dX7_give_224 : decode cX7_give 224 = .ok (.if_icmp .ne 11, 3) := by decide +kernel
theorem dX7_give_227 : decode cX7_give 227 = .ok (.aload_n 0, 1) := by decide +kernel
theorem dX7_give_228 : decode cX7_give 228 = .ok (.iconst 1, 1) := by decide +kernel
theorem dX7_give_229 : decode cX7_give 229 = .ok (.iload_n 3, 1) := by decide +kernel
theorem dX7_give_230 : decode cX7_give 230 = .ok (.invokevirtual 132, 3) := by decide +kernel
theorem dX7_give_233 : decode cX7_give 233 = .ok (.iconst (-1), 1) := by decide +kernel
theorem dX7_give_234 : decode cX7_give 234 = .ok (.ireturn, 1) := by decide +kernel
theorem dX7_give_235 : decode cX7_give 235 = .ok (.aload_n 0, 1) := by decide +kernel
theorem dX7_give_236 : decode cX7_give 236 = .ok (.getfield 48, 3) := by decide +kernel
theorem dX7_give_239 : decode cX7_give 239 = .ok (.iload_n 1, 1) := by decide +kernel
theorem dX7_give_240 : decode cX7_give 240 = .ok (.iconst 1, 1) := by decide +kernel
theorem dX7_give_241 : decode cX7_give 241 = .ok (.iastore, 1) := by decide +kernel
theorem dX7_give_242 : decode cX7_give 242 = .ok (.iload 4, 2) := by decide +kernel
theorem dX7_give_244 : decode cX7_give 244 = .ok (.bipush 13, 2) := by decide +kernel
theorem dX7_give_246 : decode cX7_give 246 = .ok (.if_icmp .ne 18, 3) := by decide +kernel
theorem dX7_give_249 : decode cX7_give 249 = .ok (.aload_n 0, 1) := by decide +kernel
theorem dX7_give_250 : decode cX7_give 250 = .ok (.getfield 16, 3) := by decide +kernel
theorem dX7_give_253 : decode cX7_give 253 = .ok (.iload_n 3, 1) := by decide +kernel
theorem dX7_give_254 : decode cX7_give 254 = .ok (.baload, 1) := by decide +kernel
theorem dX7_give_255 : decode cX7_give 255 = .ok (.ifCond .ne 9, 3) := by decide +kernel
theorem dX7_give_258 : decode cX7_give 258 = .ok (.aload_n 0, 1) := by decide +kernel
theorem dX7_give_259 : decode cX7_give 259 = .ok (.iconst 2, 1) := by decide +kernel
theorem dX7_give_260 : decode cX7_give 260 = .ok (.iload_n 3, 1) := by decide +kernel
theorem dX7_give_261 : decode cX7_give 261 = .ok (.invokevirtual 132, 3) := by decide +kernel
theorem dX7_give_264 : decode cX7_give 264 = .ok (.aload_n 0, 1) := by decide +kernel
theorem dX7_give_265 : decode cX7_give 265 = .ok (.iload 4, 2) := by decide +kernel
theorem dX7_give_267 : decode cX7_give 267 = .ok (.bipush 13, 2) := by decide +kernel
theorem dX7_give_269 : decode cX7_give 269 = .ok (.if_icmp .ne 7, 3) := by decide +kernel
theorem dX7_give_272 : decode cX7_give 272 = .ok (.iconst 2, 1) := by decide +kernel
theorem dX7_give_273 : decode cX7_give 273 = .ok (.goto 4, 3) := by decide +kernel
theorem dX7_give_276 : decode cX7_give 276 = .ok (.iconst 0, 1) := by decide +kernel
theorem dX7_give_277 : decode cX7_give 277 = .ok (.iload_n 3, 1) := by decide +kernel
theorem dX7_give_278 : decode cX7_give 278 = .ok (.iload 4, 2) := by decide +kernel
theorem dX7_give_280 : decode cX7_give 280 = .ok (.iload_n 2, 1) := by decide +kernel
theorem dX7_give_281 : decode cX7_give 281 = .ok (.invokevirtual 142, 3) := by decide +kernel
theorem dX7_give_284 : decode cX7_give 284 = .ok (.ireturn, 1) := by decide +kernel
theorem dX7_next_0 : decode cX7_next 0 = .ok (.aload_n 0, 1) := by decide +kernel
theorem dX7_next_1 : decode cX7_next 1 = .ok (.iconst 0, 1) := by decide +kernel
theorem dX7_next_2 : decode cX7_next 2 = .ok (.putfield 72, 3) := by decide +kernel
theorem dX7_next_5 : decode cX7_next 5 = .ok (.aload_n 0, 1) := by decide +kernel
theorem dX7_next_6 : decode cX7_next 6 = .ok (.getfield 90, 3) := by decide +kernel
theorem dX7_next_9 : decode cX7_next 9 = .ok (.ifCond .le 16, 3) := by decide +kernel
theorem dX7_next_12 : decode cX7_next 12 = .ok (.aload_n 0, 1) := by decide +kernel
theorem dX7_next_13 : decode cX7_next 13 = .ok (.getfield 119, 3) := by decide +kernel
theorem dX7_next_16 : decode cX7_next 16 = .ok (.sipush 600, 3) := by decide +kernel
theorem dX7_next_19 : decode cX7_next 19 = .ok (.if_icmp .ne 6, 3) := by decide +kernel
theorem dX7_next_22 : decode cX7_next 22 = .ok (.bipush (-4), 2) := by decide +kernel
theorem dX7_next_24 : decode cX7_next 24 = .ok (.ireturn, 1) := by decide +kernel
theorem dX7_next_25 : decode cX7_next 25 = .ok (.iconst (-1), 1) := by decide +kernel
theorem dX7_next_26 : decode cX7_next 26 = .ok (.istore_n 1, 1) := by decide +kernel
theorem dX7_next_27 : decode cX7_next 27 = .ok (.iload_n 1, 1) := by decide +kernel
theorem dX7_next_28 : decode cX7_next 28 = .ok (.iconst (-1), 1) := by decide +kernel
theorem dX7_next_29 : decode cX7_next 29 = .ok (.if_icmp .ne 50, 3) := by decide +kernel
theorem dX7_next_32 : decode cX7_next 32 = .ok (.aload_n 0, 1) := by decide +kernel
theorem dX7_next_33 : decode cX7_next 33 = .ok (.invokevirtual 146, 3) := by decide +kernel
theorem dX7_next_36 : decode cX7_next 36 = .ok (.ifCond .eq 43, 3) := by decide +kernel
theorem dX7_next_39 : decode cX7_next 39 = .ok (.aload_n 0, 1) := by decide +kernel
theorem dX7_next_40 : decode cX7_next 40 = .ok (.getfield 90, 3) := by decide +kernel
theorem dX7_next_43 : decode cX7_next 43 = .ok (.iconst 1, 1) := by decide +kernel
theorem dX7_next_44 : decode cX7_next 44 = .ok (.isub, 1) := by decide +kernel
theorem dX7_next_45 : decode cX7_next 45 = .ok (.istore_n 2, 1) := by decide +kernel
theorem dX7_next_46 : decode cX7_next 46 = .ok (.aload_n 0, 1) := by decide +kernel
theorem dX7_next_47 : decode cX7_next 47 = .ok (.getfield 45, 3) := by decide +kernel
theorem dX7_next_50 : decode cX7_next 50 = .ok (.iload_n 2, 1) := by decide +kernel
theorem dX7_next_51 : decode cX7_next 51 = .ok (.iaload, 1) := by decide +kernel
theorem dX7_next_52 : decode cX7_next 52 = .ok (.aload_n 0, 1) := by decide +kernel
theorem dX7_next_53 : decode cX7_next 53 = .ok (.getfield 42, 3) := by decide +kernel
theorem dX7_next_56 : decode cX7_next 56 = .ok (.iload_n 2, 1) := by decide +kernel
theorem dX7_next_57 : decode cX7_next 57 = .ok (.iaload, 1) := by decide +kernel
theorem dX7_next_58 : decode cX7_next 58 = .ok (.if_icmp .lt 13, 3) := by decide +kernel
theorem dX7_next_61 : decode cX7_next 61 = .ok (.aload_n 0, 1) := by decide +kernel
theorem dX7_next_62 : decode cX7_next 62 = .ok (.getfield 48, 3) := by decide +kernel
theorem dX7_next_65 : decode cX7_next 65 = .ok (.iload_n 2, 1) := by decide +kernel
theorem dX7_next_66 : decode cX7_next 66 = .ok (.iconst (-1), 1) := by decide +kernel
theorem dX7_next_67 : decode cX7_next 67 = .ok (.iastore, 1) := by decide +kernel
theorem dX7_next_68 : decode cX7_next 68 = .ok (.goto 8, 3) := by decide +kernel
theorem dX7_next_71 : decode cX7_next 71 = .ok (.aload_n 0, 1) := by decide +kernel
theorem dX7_next_72 : decode cX7_next 72 = .ok (.invokevirtual 150, 3) := by decide +kernel
theorem dX7_next_75 : decode cX7_next 75 = .ok (.istore_n 1, 1) := by decide +kernel
theorem dX7_next_76 : decode cX7_next 76 = .ok (.goto (-49), 3) := by decide +kernel
theorem dX7_next_79 : decode cX7_next 79 = .ok (.iload_n 1, 1) := by decide +kernel
theorem dX7_next_80 : decode cX7_next 80 = .ok (.iconst (-1), 1) := by decide +kernel
theorem dX7_next_81 : decode cX7_next 81 = .ok (.if_icmp .ne 8, 3) := by decide +kernel
theorem dX7_next_84 : decode cX7_next 84 = .ok (.bipush (-3), 2) := by decide +kernel
theorem dX7_next_86 : decode cX7_next 86 = .ok (.goto 4, 3) := by decide +kernel
theorem dX7_next_89 : decode cX7_next 89 = .ok (.iload_n 1, 1) := by decide +kernel
theorem dX7_next_90 : decode cX7_next 90 = .ok (.ireturn, 1) := by decide +kernel
theorem dX7_raw_0 : decode cX7_raw 0 = .ok (.aload_n 0, 1) := by decide +kernel
theorem dX7_raw_1 : decode cX7_raw 1 = .ok (.iconst 0, 1) := by decide +kernel
theorem dX7_raw_2 : decode cX7_raw 2 = .ok (.putfield 72, 3) := by decide +kernel
theorem dX7_raw_5 : decode cX7_raw 5 = .ok (.aload_n 0, 1) := by decide +kernel
theorem dX7_raw_6 : decode cX7_raw 6 = .ok (.getfield 90, 3) := by decide +kernel
theorem dX7_raw_9 : decode cX7_raw 9 = .ok (.ifCond .le 16, 3) := by decide +kernel
theorem dX7_raw_12 : decode cX7_raw 12 = .ok (.aload_n 0, 1) := by decide +kernel
theorem dX7_raw_13 : decode cX7_raw 13 = .ok (.getfield 119, 3) := by decide +kernel
theorem dX7_raw_16 : decode cX7_raw 16 = .ok (.sipush 600, 3) := by decide +kernel
theorem dX7_raw_19 : decode cX7_raw 19 = .ok (.if_icmp .ne 6, 3) := by decide +kernel
theorem dX7_raw_22 : decode cX7_raw 22 = .ok (.bipush (-4), 2) := by decide +kernel
theorem dX7_raw_24 : decode cX7_raw 24 = .ok (.ireturn, 1) := by decide +kernel
theorem dX7_raw_25 : decode cX7_raw 25 = .ok (.aload_n 0, 1) := by decide +kernel
theorem dX7_raw_26 : decode cX7_raw 26 = .ok (.invokevirtual 146, 3) := by decide +kernel
theorem dX7_raw_29 : decode cX7_raw 29 = .ok (.ifCond .ne 6, 3) := by decide +kernel
theorem dX7_raw_32 : decode cX7_raw 32 = .ok (.bipush (-3), 2) := by decide +kernel
theorem dX7_raw_34 : decode cX7_raw 34 = .ok (.ireturn, 1) := by decide +kernel
theorem dX7_raw_35 : decode cX7_raw 35 = .ok (.aload_n 0, 1) := by decide +kernel
theorem dX7_raw_36 : decode cX7_raw 36 = .ok (.getfield 90, 3) := by decide +kernel
theorem dX7_raw_39 : decode cX7_raw 39 = .ok (.iconst 1, 1) := by decide +kernel
theorem dX7_raw_40 : decode cX7_raw 40 = .ok (.isub, 1) := by decide +kernel
theorem dX7_raw_41 : decode cX7_raw 41 = .ok (.istore_n 1, 1) := by decide +kernel
theorem dX7_raw_42 : decode cX7_raw 42 = .ok (.aload_n 0, 1) := by decide +kernel
theorem dX7_raw_43 : decode cX7_raw 43 = .ok (.aload_n 0, 1) := by decide +kernel
theorem dX7_raw_44 : decode cX7_raw 44 = .ok (.getfield 45, 3) := by decide +kernel
theorem dX7_raw_47 : decode cX7_raw 47 = .ok (.iload_n 1, 1) := by decide +kernel
theorem dX7_raw_48 : decode cX7_raw 48 = .ok (.iaload, 1) := by decide +kernel
theorem dX7_raw_49 : decode cX7_raw 49 = .ok (.invokevirtual 100, 3) := by decide +kernel
theorem dX7_raw_52 : decode cX7_raw 52 = .ok (.istore_n 2, 1) := by decide +kernel
theorem dX7_raw_53 : decode cX7_raw 53 = .ok (.iload_n 2, 1) := by decide +kernel
theorem dX7_raw_54 : decode cX7_raw 54 = .ok (.ifCond .ge 13, 3) := by decide +kernel
theorem dX7_raw_57 : decode cX7_raw 57 = .ok (.aload_n 0, 1) := by decide +kernel
theorem dX7_raw_58 : decode cX7_raw 58 = .ok (.getfield 48, 3) := by decide +kernel
theorem dX7_raw_61 : decode cX7_raw 61 = .ok (.iload_n 1, 1) := by decide +kernel
theorem dX7_raw_62 : decode cX7_raw 62 = .ok (.iconst (-1), 1) := by decide +kernel
theorem dX7_raw_63 : decode cX7_raw 63 = .ok (.iastore, 1) := by decide +kernel
theorem dX7_raw_64 : decode cX7_raw 64 = .ok (.bipush (-5), 2) := by decide +kernel
theorem dX7_raw_66 : decode cX7_raw 66 = .ok (.ireturn, 1) := by decide +kernel
theorem dX7_raw_67 : decode cX7_raw 67 = .ok (.aload_n 0, 1) := by decide +kernel
theorem dX7_raw_68 : decode cX7_raw 68 = .ok (.getfield 45, 3) := by decide +kernel
theorem dX7_raw_71 : decode cX7_raw 71 = .ok (.iload_n 1, 1) := by decide +kernel
theorem dX7_raw_72 : decode cX7_raw 72 = .ok (.dup2, 1) := by decide +kernel
theorem dX7_raw_73 : decode cX7_raw 73 = .ok (.iaload, 1) := by decide +kernel
theorem dX7_raw_74 : decode cX7_raw 74 = .ok (.iconst 1, 1) := by decide +kernel
theorem dX7_raw_75 : decode cX7_raw 75 = .ok (.iadd, 1) := by decide +kernel
theorem dX7_raw_76 : decode cX7_raw 76 = .ok (.iastore, 1) := by decide +kernel
theorem dX7_raw_77 : decode cX7_raw 77 = .ok (.aload_n 0, 1) := by decide +kernel
theorem dX7_raw_78 : decode cX7_raw 78 = .ok (.iconst 0, 1) := by decide +kernel
theorem dX7_raw_79 : decode cX7_raw 79 = .ok (.iload_n 2, 1) := by decide +kernel
theorem dX7_raw_80 : decode cX7_raw 80 = .ok (.bipush 12, 2) := by decide +kernel
theorem dX7_raw_82 : decode cX7_raw 82 = .ok (.aload_n 0, 1) := by decide +kernel
theorem dX7_raw_83 : decode cX7_raw 83 = .ok (.getfield 45, 3) := by decide +kernel
theorem dX7_raw_86 : decode cX7_raw 86 = .ok (.iload_n 1, 1) := by decide +kernel
theorem dX7_raw_87 : decode cX7_raw 87 = .ok (.iaload, 1) := by decide +kernel
theorem dX7_raw_88 : decode cX7_raw 88 = .ok (.iconst 1, 1) := by decide +kernel
theorem dX7_raw_89 : decode cX7_raw 89 = .ok (.isub, 1) := by decide +kernel
theorem dX7_raw_90 : decode cX7_raw 90 = .ok (.invokevirtual 142, 3) := by decide +kernel
theorem dX7_raw_93 : decode cX7_raw 93 = .ok (.ireturn, 1) := by decide +kernel
theorem dX7_token_0 : decode cX7_token 0 = .ok (.aload_n 0, 1) := by decide +kernel
theorem dX7_token_1 : decode cX7_token 1 = .ok (.iload_n 1, 1) := by decide +kernel
theorem dX7_token_2 : decode cX7_token 2 = .ok (.ifCond .lt 20, 3) := by decide +kernel
theorem dX7_token_5 : decode cX7_token 5 = .ok (.iload_n 1, 1) := by decide +kernel
theorem dX7_token_6 : decode cX7_token 6 = .ok (.aload_n 0, 1) := by decide +kernel
theorem dX7_token_7 : decode cX7_token 7 = .ok (.getfield 119, 3) := by decide +kernel
theorem dX7_token_10 : decode cX7_token 10 = .ok (.if_icmp .ge 12, 3) := by decide +kernel
theorem dX7_token_13 : decode cX7_token 13 = .ok (.iload_n 2, 1) := by decide +kernel
theorem dX7_token_14 : decode cX7_token 14 = .ok (.ifCond .lt 8, 3) := by decide +kernel
theorem dX7_token_17 : decode cX7_token 17 = .ok (.iload_n 2, 1) := by decide +kernel
theorem dX7_token_18 : decode cX7_token 18 = .ok (.iconst 5, 1) := by decide +kernel
theorem dX7_token_19 : decode cX7_token 19 = .ok (.if_icmp .le 7, 3) := by decide +kernel
theorem dX7_token_22 : decode cX7_token 22 = .ok (.iconst 1, 1) := by decide +kernel
theorem dX7_token_23 : decode cX7_token 23 = .ok (.goto 4, 3) := by decide +kernel
theorem dX7_token_26 : decode cX7_token 26 = .ok (.iconst 0, 1) := by decide +kernel
theorem dX7_token_27 : decode cX7_token 27 = .ok (.putfield 72, 3) := by decide +kernel
theorem dX7_token_30 : decode cX7_token 30 = .ok (.aload_n 0, 1) := by decide +kernel
theorem dX7_token_31 : decode cX7_token 31 = .ok (.getfield 72, 3) := by decide +kernel
theorem dX7_token_34 : decode cX7_token 34 = .ok (.iconst 1, 1) := by decide +kernel
theorem dX7_token_35 : decode cX7_token 35 = .ok (.if_icmp .ne 7, 3) := by decide +kernel
theorem dX7_token_38 : decode cX7_token 38 = .ok (.iconst 0, 1) := by decide +kernel
theorem dX7_token_39 : decode cX7_token 39 = .ok (.goto 14, 3) := by decide +kernel
theorem dX7_token_42 : decode cX7_token 42 = .ok (.aload_n 0, 1) := by decide +kernel
theorem dX7_token_43 : decode cX7_token 43 = .ok (.getfield 54, 3) := by decide +kernel
theorem dX7_token_46 : decode cX7_token 46 = .ok (.bipush 6, 2) := by decide +kernel
theorem dX7_token_48 : decode cX7_token 48 = .ok (.iload_n 1, 1) := by decide +kernel
theorem dX7_token_49 : decode cX7_token 49 = .ok (.imul, 1) := by decide +kernel
theorem dX7_token_50 : decode cX7_token 50 = .ok (.iload_n 2, 1) := by decide +kernel
theorem dX7_token_51 : decode cX7_token 51 = .ok (.iadd, 1) := by decide +kernel
theorem dX7_token_52 : decode cX7_token 52 = .ok (.iaload, 1) := by decide +kernel
theorem dX7_token_53 : decode cX7_token 53 = .ok (.ireturn, 1) := by decide +kernel
theorem dX7_name_0 : decode cX7_name 0 = .ok (.aload_n 0, 1) := by decide +kernel
theorem dX7_name_1 : decode cX7_name 1 = .ok (.iconst 0, 1) := by decide +kernel
theorem dX7_name_2 : decode cX7_name 2 = .ok (.putfield 72, 3) := by decide +kernel
theorem dX7_name_5 : decode cX7_name 5 = .ok (.iload_n 1, 1) := by decide +kernel
theorem dX7_name_6 : decode cX7_name 6 = .ok (.ifCond .lt 39, 3) := by decide +kernel
theorem dX7_name_9 : decode cX7_name 9 = .ok (.iload_n 1, 1) := by decide +kernel
theorem dX7_name_10 : decode cX7_name 10 = .ok (.aload_n 0, 1) := by decide +kernel
theorem dX7_name_11 : decode cX7_name 11 = .ok (.getfield 69, 3) := by decide +kernel
theorem dX7_name_14 : decode cX7_name 14 = .ok (.if_icmp .ge 31, 3) := by decide +kernel
theorem dX7_name_17 : decode cX7_name 17 = .ok (.iload_n 2, 1) := by decide +kernel
theorem dX7_name_18 : decode cX7_name 18 = .ok (.ifCond .lt 27, 3) := by decide +kernel
theorem dX7_name_21 : decode cX7_name 21 = .ok (.iload_n 2, 1) := by decide +kernel
theorem dX7_name_22 : decode cX7_name 22 = .ok (.aload_n 0, 1) := by decide +kernel
theorem dX7_name_23 : decode cX7_name 23 = .ok (.getfield 60, 3) := by decide +kernel
theorem dX7_name_26 : decode cX7_name 26 = .ok (.iload_n 1, 1) := by decide +kernel
theorem dX7_name_27 : decode cX7_name 27 = .ok (.iaload, 1) := by decide +kernel
theorem dX7_name_28 : decode cX7_name 28 = .ok (.if_icmp .ge 17, 3) := by decide +kernel
theorem dX7_name_31 : decode cX7_name 31 = .ok (.aload_n 0, 1) := by decide +kernel
theorem dX7_name_32 : decode cX7_name 32 = .ok (.getfield 57, 3) := by decide +kernel
theorem dX7_name_35 : decode cX7_name 35 = .ok (.bipush 40, 2) := by decide +kernel
theorem dX7_name_37 : decode cX7_name 37 = .ok (.iload_n 1, 1) := by decide +kernel
theorem dX7_name_38 : decode cX7_name 38 = .ok (.imul, 1) := by decide +kernel
theorem dX7_name_39 : decode cX7_name 39 = .ok (.iload_n 2, 1) := by decide +kernel
theorem dX7_name_40 : decode cX7_name 40 = .ok (.iadd, 1) := by decide +kernel
theorem dX7_name_41 : decode cX7_name 41 = .ok (.iaload, 1) := by decide +kernel
theorem dX7_name_42 : decode cX7_name 42 = .ok (.goto 4, 3) := by decide +kernel
theorem dX7_name_45 : decode cX7_name 45 = .ok (.iconst (-1), 1) := by decide +kernel
theorem dX7_name_46 : decode cX7_name 46 = .ok (.ireturn, 1) := by decide +kernel
theorem dX7_told_0 : decode cX7_told 0 = .ok (.aload_n 0, 1) := by decide +kernel
theorem dX7_told_1 : decode cX7_told 1 = .ok (.iconst 0, 1) := by decide +kernel
theorem dX7_told_2 : decode cX7_told 2 = .ok (.putfield 72, 3) := by decide +kernel
theorem dX7_told_5 : decode cX7_told 5 = .ok (.iload_n 1, 1) := by decide +kernel
theorem dX7_told_6 : decode cX7_told 6 = .ok (.ifCond .lt 39, 3) := by decide +kernel
theorem dX7_told_9 : decode cX7_told 9 = .ok (.iload_n 1, 1) := by decide +kernel
theorem dX7_told_10 : decode cX7_told 10 = .ok (.aload_n 0, 1) := by decide +kernel
theorem dX7_told_11 : decode cX7_told 11 = .ok (.getfield 116, 3) := by decide +kernel
theorem dX7_told_14 : decode cX7_told 14 = .ok (.if_icmp .ge 31, 3) := by decide +kernel
theorem dX7_told_17 : decode cX7_told 17 = .ok (.iload_n 1, 1) := by decide +kernel
theorem dX7_told_18 : decode cX7_told 18 = .ok (.bipush 100, 2) := by decide +kernel
theorem dX7_told_20 : decode cX7_told 20 = .ok (.if_icmp .ge 25, 3) := by decide +kernel
theorem dX7_told_23 : decode cX7_told 23 = .ok (.iload_n 2, 1) := by decide +kernel
theorem dX7_told_24 : decode cX7_told 24 = .ok (.ifCond .lt 21, 3) := by decide +kernel
theorem dX7_told_27 : decode cX7_told 27 = .ok (.iload_n 2, 1) := by decide +kernel
theorem dX7_told_28 : decode cX7_told 28 = .ok (.iconst 3, 1) := by decide +kernel
theorem dX7_told_29 : decode cX7_told 29 = .ok (.if_icmp .ge 16, 3) := by decide +kernel
theorem dX7_told_32 : decode cX7_told 32 = .ok (.aload_n 0, 1) := by decide +kernel
theorem dX7_told_33 : decode cX7_told 33 = .ok (.getfield 63, 3) := by decide +kernel
theorem dX7_told_36 : decode cX7_told 36 = .ok (.iconst 3, 1) := by decide +kernel
theorem dX7_told_37 : decode cX7_told 37 = .ok (.iload_n 1, 1) := by decide +kernel
theorem dX7_told_38 : decode cX7_told 38 = .ok (.imul, 1) := by decide +kernel
theorem dX7_told_39 : decode cX7_told 39 = .ok (.iload_n 2, 1) := by decide +kernel
theorem dX7_told_40 : decode cX7_told 40 = .ok (.iadd, 1) := by decide +kernel
theorem dX7_told_41 : decode cX7_told 41 = .ok (.iaload, 1) := by decide +kernel
theorem dX7_told_42 : decode cX7_told 42 = .ok (.goto 4, 3) := by decide +kernel
theorem dX7_told_45 : decode cX7_told 45 = .ok (.iconst (-1), 1) := by decide +kernel
theorem dX7_told_46 : decode cX7_told 46 = .ok (.ireturn, 1) := by decide +kernel
theorem dX7_categoryOf_0 : decode cX7_categoryOf 0 = .ok (.aload_n 0, 1) := by decide +kernel
theorem dX7_categoryOf_1 : decode cX7_categoryOf 1 = .ok (.iconst 0, 1) := by decide +kernel
theorem dX7_categoryOf_2 : decode cX7_categoryOf 2 = .ok (.putfield 72, 3) := by decide +kernel
theorem dX7_categoryOf_5 : decode cX7_categoryOf 5 = .ok (.iload_n 1, 1) := by decide +kernel
theorem dX7_categoryOf_6 : decode cX7_categoryOf 6 = .ok (.invokestatic 75, 3) := by decide +kernel
theorem dX7_categoryOf_9 : decode cX7_categoryOf 9 = .ok (.ifCond .eq 12, 3) := by decide +kernel
theorem dX7_categoryOf_12 : decode cX7_categoryOf 12 = .ok (.aload_n 0, 1) := by decide +kernel
theorem dX7_categoryOf_13 : decode cX7_categoryOf 13 = .ok (.getfield 7, 3) := by decide +kernel
theorem dX7_categoryOf_16 : decode cX7_categoryOf 16 = .ok (.iload_n 1, 1) := by decide +kernel
theorem dX7_categoryOf_17 : decode cX7_categoryOf 17 = .ok (.iaload, 1) := by decide +kernel
theorem dX7_categoryOf_18 : decode cX7_categoryOf 18 = .ok (.goto 5, 3) := by decide +kernel
theorem dX7_categoryOf_21 : decode cX7_categoryOf 21 = .ok (.bipush (-2), 2) := by decide +kernel
theorem dX7_categoryOf_23 : decode cX7_categoryOf 23 = .ok (.ireturn, 1) := by decide +kernel
theorem dX7_state_0 : decode cX7_state 0 = .ok (.aload_n 0, 1) := by decide +kernel
theorem dX7_state_1 : decode cX7_state 1 = .ok (.iconst 0, 1) := by decide +kernel
theorem dX7_state_2 : decode cX7_state 2 = .ok (.putfield 72, 3) := by decide +kernel
theorem dX7_state_5 : decode cX7_state 5 = .ok (.aload_n 0, 1) := by decide +kernel
theorem dX7_state_6 : decode cX7_state 6 = .ok (.getfield 90, 3) := by decide +kernel
theorem dX7_state_9 : decode cX7_state 9 = .ok (.ifCond .ne 7, 3) := by decide +kernel
theorem dX7_state_12 : decode cX7_state 12 = .ok (.iconst (-1), 1) := by decide +kernel
theorem dX7_state_13 : decode cX7_state 13 = .ok (.goto 14, 3) := by decide +kernel
theorem dX7_state_16 : decode cX7_state 16 = .ok (.aload_n 0, 1) := by decide +kernel
theorem dX7_state_17 : decode cX7_state 17 = .ok (.getfield 48, 3) := by decide +kernel
theorem dX7_state_20 : decode cX7_state 20 = .ok (.aload_n 0, 1) := by decide +kernel
theorem dX7_state_21 : decode cX7_state 21 = .ok (.getfield 90, 3) := by decide +kernel
theorem dX7_state_24 : decode cX7_state 24 = .ok (.iconst 1, 1) := by decide +kernel
theorem dX7_state_25 : decode cX7_state 25 = .ok (.isub, 1) := by decide +kernel
theorem dX7_state_26 : decode cX7_state 26 = .ok (.iaload, 1) := by decide +kernel
theorem dX7_state_27 : decode cX7_state 27 = .ok (.ireturn, 1) := by decide +kernel
theorem dX7_count_0 : decode cX7_count 0 = .ok (.aload_n 0, 1) := by decide +kernel
theorem dX7_count_1 : decode cX7_count 1 = .ok (.iconst 0, 1) := by decide +kernel
theorem dX7_count_2 : decode cX7_count 2 = .ok (.putfield 72, 3) := by decide +kernel
theorem dX7_count_5 : decode cX7_count 5 = .ok (.aload_n 0, 1) := by decide +kernel
theorem dX7_count_6 : decode cX7_count 6 = .ok (.getfield 90, 3) := by decide +kernel
theorem dX7_count_9 : decode cX7_count 9 = .ok (.iconst 1, 1) := by decide +kernel
theorem dX7_count_10 : decode cX7_count 10 = .ok (.isub, 1) := by decide +kernel
theorem dX7_count_11 : decode cX7_count 11 = .ok (.istore_n 2, 1) := by decide +kernel
theorem dX7_count_12 : decode cX7_count 12 = .ok (.iload_n 1, 1) := by decide +kernel
theorem dX7_count_13 : decode cX7_count 13 = .ok (.tableswitch 113 0 7 #[47, 52, 57, 62, 67, 72, 77, 108], 47) := by decide +kernel
theorem dX7_count_60 : decode cX7_count 60 = .ok (.aload_n 0, 1) := by decide +kernel
theorem dX7_count_61 : decode cX7_count 61 = .ok (.getfield 119, 3) := by decide +kernel
theorem dX7_count_64 : decode cX7_count 64 = .ok (.ireturn, 1) := by decide +kernel
theorem dX7_count_65 : decode cX7_count 65 = .ok (.aload_n 0, 1) := by decide +kernel
theorem dX7_count_66 : decode cX7_count 66 = .ok (.getfield 69, 3) := by decide +kernel
theorem dX7_count_69 : decode cX7_count 69 = .ok (.ireturn, 1) := by decide +kernel
theorem dX7_count_70 : decode cX7_count 70 = .ok (.aload_n 0, 1) := by decide +kernel
theorem dX7_count_71 : decode cX7_count 71 = .ok (.getfield 82, 3) := by decide +kernel
theorem dX7_count_74 : decode cX7_count 74 = .ok (.ireturn, 1) := by decide +kernel
theorem dX7_count_75 : decode cX7_count 75 = .ok (.aload_n 0, 1) := by decide +kernel
theorem dX7_count_76 : decode cX7_count 76 = .ok (.getfield 90, 3) := by decide +kernel
theorem dX7_count_79 : decode cX7_count 79 = .ok (.ireturn, 1) := by decide +kernel
theorem dX7_count_80 : decode cX7_count 80 = .ok (.aload_n 0, 1) := by decide +kernel
theorem dX7_count_81 : decode cX7_count 81 = .ok (.getfield 79, 3) := by decide +kernel
theorem dX7_count_84 : decode cX7_count 84 = .ok (.ireturn, 1) := by decide +kernel
theorem dX7_count_85 : decode cX7_count 85 = .ok (.aload_n 0, 1) := by decide +kernel
theorem dX7_count_86 : decode cX7_count 86 = .ok (.getfield 116, 3) := by decide +kernel
theorem dX7_count_89 : decode cX7_count 89 = .ok (.ireturn, 1) := by decide +kernel
theorem dX7_count_90 : decode cX7_count 90 = .ok (.iload_n 2, 1) := by decide +kernel
theorem dX7_count_91 : decode cX7_count 91 = .ok (.ifCond .lt 12, 3) := by decide +kernel
theorem dX7_count_94 : decode cX7_count 94 = .ok (.aload_n 0, 1) := by decide +kernel
theorem dX7_count_95 : decode cX7_count 95 = .ok (.getfield 48, 3) := by decide +kernel
theorem dX7_count_98 : decode cX7_count 98 = .ok (.iload_n 2, 1) := by decide +kernel
theorem dX7_count_99 : decode cX7_count 99 = .ok (.iaload, 1) := by decide +kernel
theorem dX7_count_100 : decode cX7_count 100 = .ok (.ifCond .ge 7, 3) := by decide +kernel
theorem dX7_count_103 : decode cX7_count 103 = .ok (.iconst 0, 1) := by decide +kernel
theorem dX7_count_104 : decode cX7_count 104 = .ok (.goto 16, 3) := by decide +kernel
theorem dX7_count_107 : decode cX7_count 107 = .ok (.aload_n 0, 1) := by decide +kernel
theorem dX7_count_108 : decode cX7_count 108 = .ok (.getfield 42, 3) := by decide +kernel
theorem dX7_count_111 : decode cX7_count 111 = .ok (.iload_n 2, 1) := by decide +kernel
theorem dX7_count_112 : decode cX7_count 112 = .ok (.iaload, 1) := by decide +kernel
theorem dX7_count_113 : decode cX7_count 113 = .ok (.aload_n 0, 1) := by decide +kernel
theorem dX7_count_114 : decode cX7_count 114 = .ok (.getfield 45, 3) := by decide +kernel
theorem dX7_count_117 : decode cX7_count 117 = .ok (.iload_n 2, 1) := by decide +kernel
theorem dX7_count_118 : decode cX7_count 118 = .ok (.iaload, 1) := by decide +kernel
theorem dX7_count_119 : decode cX7_count 119 = .ok (.isub, 1) := by decide +kernel
theorem dX7_count_120 : decode cX7_count 120 = .ok (.ireturn, 1) := by decide +kernel
theorem dX7_count_121 : decode cX7_count 121 = .ok (.aload_n 0, 1) := by decide +kernel
theorem dX7_count_122 : decode cX7_count 122 = .ok (.getfield 97, 3) := by decide +kernel
theorem dX7_count_125 : decode cX7_count 125 = .ok (.ireturn, 1) := by decide +kernel
theorem dX7_count_126 : decode cX7_count 126 = .ok (.bipush (-2), 2) := by decide +kernel
theorem dX7_count_128 : decode cX7_count 128 = .ok (.ireturn, 1) := by decide +kernel
theorem dX7_check_0 : decode cX7_check 0 = .ok (.aload_n 0, 1) := by decide +kernel
theorem dX7_check_1 : decode cX7_check 1 = .ok (.iconst 0, 1) := by decide +kernel
theorem dX7_check_2 : decode cX7_check 2 = .ok (.putfield 72, 3) := by decide +kernel
theorem dX7_check_5 : decode cX7_check 5 = .ok (.iconst 1, 1) := by decide +kernel
theorem dX7_check_6 : decode cX7_check 6 = .ok (.ireturn, 1) := by decide +kernel
end
section
/-! A small machine over whole numbers: zV is the kit's W at an instruction, for a method that makes no cell;
the world is a list of shapes (zSh), what varies are the objects' numbers and the arrays' numbers (zSt). -/
def zI (z : Int) : Int32 := Int32.ofInt z
abbrev zR (z : Int) : Prop := -2147483648 ≤ z ∧ z < 2147483648
theorem zI_add (a b : Int) : zI a + zI b = zI (a + b) := (Int32.ofInt_add a b).symm
theorem zI_sub (a b : Int) : zI a - zI b = zI (a - b) := (Int32.ofInt_sub a b).symm
theorem zI_mul (a b : Int) : zI a * zI b = zI (a * b) := (Int32.ofInt_mul a b).symm
theorem zI_toInt {a : Int} (h : zR a) : (zI a).toInt = a := Int32.toInt_ofInt_of_le (by omega) (by omega)
theorem zI_self (x : Int32) : zI x.toInt = x := Int32.ofInt_toInt x
theorem zR_toInt (x : Int32) : zR x.toInt := ⟨by have := Int32.le_toInt x; omega, by have := Int32.toInt_lt x; omega⟩
theorem zI_lt {a b : Int} (ha : zR a) (hb : zR b) : zI a < zI b ↔ a < b := by rw [Int32.lt_iff_toInt_lt, zI_toInt ha, zI_toInt hb]
theorem zI_le {a b : Int} (ha : zR a) (hb : zR b) : zI a ≤ zI b ↔ a ≤ b := by rw [Int32.le_iff_toInt_le, zI_toInt ha, zI_toInt hb]
theorem zI_eq {a b : Int} (ha : zR a) (hb : zR b) : zI a = zI b ↔ a = b := ⟨fun h => by have := congrArg Int32.toInt h; rwa [zI_toInt ha, zI_toInt hb] at this, fun h => by rw [h]⟩
theorem zI_0 : zI 0 = 0 := rfl
theorem zI_lt0 {a : Int} (ha : zR a) : zI a < 0 ↔ a < 0 := by rw [← zI_0]; exact zI_lt ha (by omega)
theorem zI_le0 {a : Int} (ha : zR a) : zI a ≤ 0 ↔ a ≤ 0 := by rw [← zI_0]; exact zI_le ha (by omega)
theorem zI_ge0 {a : Int} (ha : zR a) : 0 ≤ zI a ↔ 0 ≤ a := by rw [← zI_0]; exact zI_le (by omega) ha
theorem zI_gt0 {a : Int} (ha : zR a) : 0 < zI a ↔ 0 < a := by rw [← zI_0]; exact zI_lt (by omega) ha
theorem zI_eq0 {a : Int} (ha : zR a) : zI a = 0 ↔ a = 0 := by rw [← zI_0]; exact zI_eq ha (by omega)
theorem zI_cl {a : Int} (h0 : 0 ≤ a) (h1 : a < 2147483648) : (zI a).toNatClampNeg = a.toNat := by
  show (zI a).toInt.toNat = a.toNat
  rw [zI_toInt (by omega)]
theorem zI_in {a : Int} {n : Nat} (h0 : 0 ≤ a) (h1 : a < n) (hn : n < 2147483648) : vp_in (zI a) n := by
  rw [vp_in_iff, zI_toInt (by omega)]; exact ⟨h0, h1⟩
abbrev zSt : Type := (Nat → Nat → Int) × (Nat → Int → Int)
abbrev zG : Type := Launch × (Nat → ClassId) × (Nat → Nat → Nat) × ClassId × ClassId × ClassId × (Nat → Nat)
def zad (G : zG) : Nat → Nat := G.2.2.2.2.2.2
def zD (G : zG) : va_G := (G.2.1, G.2.2.1)
def zT (G : zG) : List (ClassId × FieldType) := [(G.2.2.2.1, .int), (G.2.2.2.2.1, .boolean), (G.2.2.2.2.2.1, .object RX1)]
abbrev zSh : Type := (Nat × List (Option Nat)) ⊕ (Nat × Nat) ⊕ List Nat
def zval (G : zG) (σ : zSt) (i j : Nat) : Option Nat → Value
  | some r => Value.ref (zad G r)
  | none => Value.int (zI (σ.1 i j))
def zfs (G : zG) (σ : zSt) (i : Nat) (ks : List (Option Nat)) : List Value := ks.mapIdx fun j k => zval G σ i j k
def zcell (G : zG) (σ : zSt) (i : Nat) : zSh → va_E
  | .inl (ci, ks) => .inr (ci, zfs G σ i ks)
  | .inr (.inl (0, n)) => .inl (G.2.2.2.1, n, .inl fun k => zI (σ.2 i k))
  | .inr (.inl (_ + 1, n)) => .inl (G.2.2.2.2.1, n, .inl fun k => zI (σ.2 i k))
  | .inr (.inr rs) => .inl (G.2.2.2.2.2.1, rs.length, .inr (.inr (.inr (.inr fun k => (rs[k]?).map (zad G)))))
def zw (G : zG) (sh : List zSh) (σ : zSt) : va_W := sh.mapIdx fun i s => (zad G i, zcell G σ i s)
def zsF (σ : zSt) (i j : Nat) (x : Int) : zSt := (fun a b => if a = i ∧ b = j then x else σ.1 a b, σ.2)
def zsA (σ : zSt) (i : Nat) (z x : Int) : zSt := (σ.1, fun a b => if a = i ∧ b = z then x else σ.2 a b)
def zsC (σ : zSt) (i0 : Nat) (sp : Int) (i1 : Nat) (dp n : Int) : zSt := (σ.1, fun a b => if a = i1 ∧ dp ≤ b ∧ b < dp + n then σ.2 i0 (sp + (b - dp)) else σ.2 a b)
def zRg (σ : zSt) : Prop := (∀ i j, zR (σ.1 i j)) ∧ ∀ i z, zR (σ.2 i z)
theorem zRg.F {σ : zSt} (h : zRg σ) {i j : Nat} {x : Int} (hx : zR x) : zRg (zsF σ i j x) := ⟨fun a b => by
  show zR (if a = i ∧ b = j then x else σ.1 a b)
  split
  · exact hx
  · exact h.1 a b, h.2⟩
theorem zRg.A {σ : zSt} (h : zRg σ) {i : Nat} {z x : Int} (hx : zR x) : zRg (zsA σ i z x) := ⟨h.1, fun a b => by
  show zR (if a = i ∧ b = z then x else σ.2 a b)
  split
  · exact hx
  · exact h.2 a b⟩
theorem zRg.C {σ : zSt} (h : zRg σ) {i0 i1 : Nat} {sp dp n : Int} : zRg (zsC σ i0 sp i1 dp n) := ⟨h.1, fun a b => by
  show zR (if a = i1 ∧ dp ≤ b ∧ b < dp + n then σ.2 i0 (sp + (b - dp)) else σ.2 a b)
  split
  · exact h.2 _ _
  · exact h.2 a b⟩
theorem zw_at {G : zG} {sh : List zSh} {σ : zSt} {i : Nat} {s : zSh} (h : sh[i]? = some s) : (zw G sh σ)[i]? = some (zad G i, zcell G σ i s) := by
  rw [zw, List.getElem?_mapIdx, h]; rfl
theorem zw_len (G : zG) (sh : List zSh) (σ : zSt) : (zw G sh σ).length = sh.length := by rw [zw, List.length_mapIdx]
theorem zcell_ne (G : zG) {σ σ' : zSt} {k : Nat} (h1 : σ'.1 k = σ.1 k) (h2 : σ'.2 k = σ.2 k) (s : zSh) : zcell G σ' k s = zcell G σ k s := by
  match s with
  | .inl (ci, ks) =>
    rw [zcell, zcell]
    have e : zfs G σ' k ks = zfs G σ k ks := by rw [zfs, zfs]; congr 1; funext j o; cases o with
    | none => show Value.int (zI (σ'.1 k j)) = Value.int (zI (σ.1 k j)); rw [h1]
    | some r => rfl
    rw [e]
  | .inr (.inl (0, n)) => rw [zcell, zcell, h2]
  | .inr (.inl (_ + 1, n)) => rw [zcell, zcell, h2]
  | .inr (.inr rs) => rw [zcell, zcell]
theorem zw_set {G : zG} {sh : List zSh} {σ σ' : zSt} {i : Nat} {s : zSh} {c : va_E} (h : sh[i]? = some s) (hc : c = zcell G σ' i s) (hn : ∀ k, k ≠ i → σ'.1 k = σ.1 k ∧ σ'.2 k = σ.2 k) : (zw G sh σ).set i (zad G i, c) = zw G sh σ' := by
  subst hc
  refine List.ext_getElem? fun k => ?_
  by_cases hk : k = i
  · subst hk
    rw [List.getElem?_set_self (by rw [zw_len]; exact (List.getElem?_eq_some_iff.mp h).1), zw_at h]
  · rw [List.getElem?_set_ne (Ne.symm hk), zw, zw, List.getElem?_mapIdx, List.getElem?_mapIdx]
    cases sh[k]? with
    | none => rfl
    | some s' => show some (zad G k, zcell G σ k s') = some (zad G k, zcell G σ' k s'); rw [zcell_ne G (hn k hk).1 (hn k hk).2]
theorem zfs_at {G : zG} {σ : zSt} {i j : Nat} {ks : List (Option Nat)} {o : Option Nat} (h : ks[j]? = some o) : (zfs G σ i ks)[j]? = some (zval G σ i j o) := by
  rw [zfs, List.getElem?_mapIdx, h]; rfl
theorem zfs_set {G : zG} {σ : zSt} {i j : Nat} {ks : List (Option Nat)} (x : Int) (h : ks[j]? = some none) : (zfs G σ i ks).set j (.int (zI x)) = zfs G (zsF σ i j x) i ks := by
  refine List.ext_getElem? fun k => ?_
  by_cases hk : k = j
  · subst hk
    rw [List.getElem?_set_self (by rw [zfs, List.length_mapIdx]; exact (List.getElem?_eq_some_iff.mp h).1), zfs_at h]
    show some _ = some (Value.int (zI (if i = i ∧ k = k then x else σ.1 i k)))
    rw [if_pos ⟨rfl, rfl⟩]
  · rw [List.getElem?_set_ne (Ne.symm hk), zfs, zfs, List.getElem?_mapIdx, List.getElem?_mapIdx]
    cases ks[k]? with
    | none => rfl
    | some o =>
      cases o with
      | some r => rfl
      | none =>
        show some (Value.int (zI (σ.1 i k))) = some (Value.int (zI (if i = i ∧ k = j then x else σ.1 i k)))
        rw [if_neg (fun q => hk q.2)]
/-- name, code, locals, type of the answer; frames, locals' room, cells, slots -/
abbrev zM : Type := MethodName × ByteArray × Nat × Option FieldType × Nat × Nat × Nat × Nat
def zws (k : zM) : List Cond := .code k.1 k.2.1 k.2.2.1 k.2.2.2.1 :: wsL_law0
def zrm (k : zM) : Room := { frames := k.2.2.2.2.1, cells := k.2.2.2.2.2.2.1, slots := k.2.2.2.2.2.2.2, locals := k.2.2.2.2.2.1 }
def zlv : Nat → List (Option Value) → List (Nat × Value)
  | _, [] => []
  | i, none :: t => zlv (i + 1) t
  | i, some v :: t => (i, v) :: zlv (i + 1) t
def zQ (G : zG) (sh : List zSh) (Post : Option Value → zSt → Prop) (A : Nat → Prop) : Array Value → State → Outcome → State → Prop := fun _ st oc t =>
  (∃ (v : Option Value) (σ' : zSt), oc = .returned v ∧ zRg σ' ∧ Post v σ' ∧ va_P (zD G) vwCl (zw G sh σ') t.heap) ∧ va_F A st t
def zC (G : zG) (sh : List zSh) (k : zM) (p : Program) (s : State) (m : MethodId) (args : Array Value) (meth : Method) (c : Code) (A : Nat → Prop) : Prop :=
  p.tables.exec = Jvm.exec ∧ c.code = k.2.1 ∧ meth.sig.returnType = k.2.2.2.1 ∧ meth.locks = false ∧ c.maxLocals = k.2.2.1 ∧ (∀ w ∈ zws k, w.before args s = true) ∧ s.vm.findClass k.1.cls = some m.cls ∧ va_K (zD G) vwCl (zT G) s ∧ (∀ σ, va_D A (zw G sh σ)) ∧ (∀ q, s.heap.size ≤ q → A q)
def zV (G : zG) (sh : List zSh) (k : zM) (pc : Nat) (lv : List (Option Value)) (st : List Value) (σ : zSt) (Post : Option Value → zSt → Prop) : Prop :=
  zRg σ → ∀ (p : Program) (e : Env) (s : State) (m : MethodId) (args : Array Value) (below : List Frame) (meth : Method) (c : Code) (H : Heap) (locs : List Loc) (A : Nat → Prop) (ls : Array Slot),
    zC G sh k p s m args meth c A → va_P (zD G) vwCl (zw G sh σ) H → va_S A s.heap H locs → lv_has ls k.2.2.1 (zlv 0 lv) →
    W p G.1 e (zrm k) s m args below meth c H locs k.2.2.2.2.2.2.1 k.2.2.2.2.2.2.2 (MQ below (zQ G sh Post A) args s k.2.2.2.2.2.2.1 k.2.2.2.2.2.2.2 A) (F0 m pc ls st)
theorem zlv_mem {lv : List (Option Value)} : ∀ (n : Nat) (q : Nat × Value), q ∈ zlv n lv ↔ ∃ i, lv[i]? = some (some q.2) ∧ q.1 = n + i := by
  induction lv with
  | nil => intro n q; simp [zlv]
  | cons o t ih =>
    intro n q
    have key : (∃ i, (o :: t)[i]? = some (some q.2) ∧ q.1 = n + i) ↔ (o = some q.2 ∧ q.1 = n) ∨ ∃ i, t[i]? = some (some q.2) ∧ q.1 = n + 1 + i := by
      constructor
      · rintro ⟨i, h1, h2⟩
        cases i with
        | zero => exact Or.inl ⟨by simpa using h1, h2⟩
        | succ i => exact Or.inr ⟨i, by simpa using h1, by omega⟩
      · rintro (⟨h1, h2⟩ | ⟨i, h1, h2⟩)
        · exact ⟨0, by simp [h1], h2⟩
        · exact ⟨i + 1, by simpa using h1, by omega⟩
    rw [key]
    cases o with
    | none => rw [zlv, ih]; simp
    | some v =>
      rw [zlv, List.mem_cons, ih]
      refine or_congr ?_ Iff.rfl
      constructor
      · rintro rfl; exact ⟨rfl, rfl⟩
      · rintro ⟨h1, h2⟩; cases h1; rw [← h2]
theorem zlv_at {ls : Array Slot} {n : Nat} {lv : List (Option Value)} (h : lv_has ls n (zlv 0 lv)) {i : Nat} {v : Value} (hi : lv[i]? = some (some v)) : ls[i]? = some (.val v) :=
  h.2.2 (i, v) ((zlv_mem 0 (i, v)).mpr ⟨i, hi, by omega⟩)
def zc1 : Option Value → Bool
  | some (.long _) => false
  | some (.double _) => false
  | _ => true
theorem zc1_spec {v : Value} (h : zc1 (some v) = true) : v.category = 1 := by cases v <;> first | rfl | cases h
theorem zlv_set {ls : Array Slot} {n : Nat} {lv : List (Option Value)} {i : Nat} {v : Value} (hi : i < lv.length) (hp : ∀ j o, j + 1 = i → lv[j]? = some o → zc1 o = true)
    (h : lv_has ls n ((i, v) :: (zlv 0 lv).filter (fun q => !(q.1 == i) && !(q.1 + 1 == i && q.2.category == 2)))) : lv_has ls n (zlv 0 (lv.set i (some v))) := by
  refine ⟨h.1, h.2.1, fun q hq => ?_⟩
  obtain ⟨j, h1, h2⟩ := (zlv_mem 0 q).mp hq
  have h2 : q.1 = j := by omega
  by_cases hj : j = i
  · subst hj
    rw [List.getElem?_set_self hi] at h1
    have e : q = (j, v) := Prod.ext h2 (Option.some.inj (Option.some.inj h1)).symm
    rw [e]
    exact h.2.2 _ List.mem_cons_self
  · rw [List.getElem?_set_ne (Ne.symm hj)] at h1
    refine h.2.2 q (List.mem_cons_of_mem _ (List.mem_filter.mpr ⟨(zlv_mem 0 q).mpr ⟨j, h1, by omega⟩, ?_⟩))
    have e1 : (q.1 == i) = false := by simp; omega
    have e2 : (q.1 + 1 == i && q.2.category == 2) = false := by
      by_cases hji : j + 1 = i
      · have := zc1_spec (hp j _ hji h1)
        simp [this]
      · simp; intro hh; omega
    rw [e1, e2]; rfl

theorem zleE {a b c : Int} (e : a = b) (h : b ≤ c) : a ≤ c := e ▸ h
theorem zgeE {a b c : Int} (e : a = b) (h : c ≤ b) : c ≤ a := e ▸ h
theorem zltE {a b c : Int} (e : a = b) (h : b < c) : a < c := e ▸ h
theorem zgtE {a b c : Int} (e : a = b) (h : c < b) : c < a := e ▸ h
theorem zeqE {a b c : Int} (e : a = b) (h : b = c) : a = c := e ▸ h
def zsB (σ : zSt) (c : Nat) (b n : Int) (g : Int → Int) : zSt := (σ.1, fun a z => if a = c ∧ b ≤ z ∧ z < b + n then g (z - b) else σ.2 a z)
theorem zsB_0 {σ : zSt} {c : Nat} {b : Int} {g : Int → Int} : zsB σ c b 0 g = σ := Prod.ext rfl (funext fun a => funext fun z => if_neg (by omega))
theorem zsB_ne1 {σ : zSt} {c a : Nat} {b n z : Int} {g : Int → Int} (h : ¬ (a = c ∧ b ≤ z ∧ z < b + n)) : (zsB σ c b n g).2 a z = σ.2 a z := if_neg h
theorem zsB_in {σ : zSt} {c : Nat} {b n z : Int} {g : Int → Int} (h0 : b ≤ z) (h1 : z < b + n) : (zsB σ c b n g).2 c z = g (z - b) := if_pos ⟨rfl, h0, h1⟩
theorem zsB_arr {σ : zSt} {c a : Nat} {b n : Int} {g : Int → Int} (h : a ≠ c) : (zsB σ c b n g).2 a = σ.2 a := by funext z; exact if_neg (fun q => h q.1)
theorem zsB_S {σ : zSt} {c : Nat} {b n x z : Int} {g : Int → Int} (h0 : 0 ≤ n) (hz : z = b + n) (hx : x = g n) : zsA (zsB σ c b n g) c z x = zsB σ c b (n + 1) g := by
  subst hz; subst hx
  refine Prod.ext rfl (funext fun a => funext fun z => ?_)
  show (if a = c ∧ z = b + n then g n else if a = c ∧ b ≤ z ∧ z < b + n then g (z - b) else σ.2 a z) = if a = c ∧ b ≤ z ∧ z < b + (n + 1) then g (z - b) else σ.2 a z
  by_cases h1 : a = c ∧ z = b + n
  · rw [if_pos h1, if_pos ⟨h1.1, by omega, by omega⟩]; congr 1; omega
  · rw [if_neg h1]
    by_cases h2 : a = c ∧ b ≤ z ∧ z < b + n
    · rw [if_pos h2, if_pos ⟨h2.1, h2.2.1, by omega⟩]
    · rw [if_neg h2, if_neg (fun q => h2 ⟨q.1, q.2.1, by have := q.2.2; have : ¬ z = b + n := fun e => h1 ⟨q.1, e⟩; omega⟩)]
theorem zsA_id {σ : zSt} {i : Nat} {z x : Int} (h : σ.2 i z = x) : zsA σ i z x = σ := by
  refine Prod.ext rfl (funext fun a => funext fun b => ?_)
  show (if a = i ∧ b = z then x else σ.2 a b) = σ.2 a b
  by_cases q : a = i ∧ b = z
  · rw [if_pos q, q.1, q.2, h]
  · rw [if_neg q]
theorem zsF_eq {σ : zSt} {i j : Nat} {x : Int} : (zsF σ i j x).1 i j = x := if_pos ⟨rfl, rfl⟩
theorem zsF_ne {σ : zSt} {i j a b : Nat} {x : Int} (h : ¬ (a = i ∧ b = j)) : (zsF σ i j x).1 a b = σ.1 a b := if_neg h
theorem zsA_eq {σ : zSt} {i : Nat} {z x : Int} : (zsA σ i z x).2 i z = x := if_pos ⟨rfl, rfl⟩
theorem zsA_ne1 {σ : zSt} {i a : Nat} {z b x : Int} (h : ¬ (a = i ∧ b = z)) : (zsA σ i z x).2 a b = σ.2 a b := if_neg h
theorem zsC_ne1 {σ : zSt} {i0 i1 a : Nat} {sp dp n b : Int} (h : ¬ (a = i1 ∧ dp ≤ b ∧ b < dp + n)) : (zsC σ i0 sp i1 dp n).2 a b = σ.2 a b := if_neg h
theorem zsA_F {σ : zSt} {i a b : Nat} {z x : Int} : (zsA σ i z x).1 a b = σ.1 a b := rfl
theorem zsC_F {σ : zSt} {i0 i1 a b : Nat} {sp dp n : Int} : (zsC σ i0 sp i1 dp n).1 a b = σ.1 a b := rfl
theorem zsB_F {σ : zSt} {c a b : Nat} {d n : Int} {g : Int → Int} : (zsB σ c d n g).1 a b = σ.1 a b := rfl
theorem zsF_A {σ : zSt} {i j a : Nat} {b x : Int} : (zsF σ i j x).2 a b = σ.2 a b := rfl
theorem zsF_W {σ : zSt} {i j a : Nat} {x : Int} : (zsF σ i j x).2 a = σ.2 a := rfl
theorem zsA_arr {σ : zSt} {i a : Nat} {z x : Int} (h : a ≠ i) : (zsA σ i z x).2 a = σ.2 a := by funext b; show (if a = i ∧ b = z then x else σ.2 a b) = σ.2 a b; rw [if_neg (fun q => h q.1)]
theorem zsC_arr {σ : zSt} {i0 i1 a : Nat} {sp dp n : Int} (h : a ≠ i1) : (zsC σ i0 sp i1 dp n).2 a = σ.2 a := by funext b; show (if a = i1 ∧ dp ≤ b ∧ b < dp + n then σ.2 i0 (sp + (b - dp)) else σ.2 a b) = σ.2 a b; rw [if_neg (fun q => h q.1)]
section zRows
variable {G : zG} {sh : List zSh} {k : zM} {pc : Nat} {lv : List (Option Value)} {st : List Value} {σ : zSt} {Post : Option Value → zSt → Prop}
theorem z_rg (h : zRg σ → zV G sh k pc lv st σ Post) : zV G sh k pc lv st σ Post := fun hR => h hR hR
theorem z_mono {Post' : Option Value → zSt → Prop} (h : zV G sh k pc lv st σ Post) (hp : ∀ v σ', Post v σ' → Post' v σ') : zV G sh k pc lv st σ Post' := by
  intro hR p e s m args below meth c H locs A ls C hP hS hl T hT X
  obtain ⟨t, h1, o, h2, h3, ⟨⟨v, σ', e1, e2, e3, e4⟩, e5⟩, h4⟩ := h hR p e s m args below meth c H locs A ls C hP hS hl T hT X
  exact ⟨t, h1, o, h2, h3, ⟨⟨v, σ', e1, e2, hp v σ' e3, e4⟩, e5⟩, h4⟩
theorem z_lv {lv' : List (Option Value)} (e : lv = lv') (h : zV G sh k pc lv' st σ Post) : zV G sh k pc lv st σ Post := by rw [e]; exact h
theorem z_st {σ' : zSt} (e : σ = σ') (h : zV G sh k pc lv st σ' Post) : zV G sh k pc lv st σ Post := by rw [e]; exact h
theorem z_top {a b : Int} (e : a = b) (h : zV G sh k pc lv (.int (zI b) :: st) σ Post) : zV G sh k pc lv (.int (zI a) :: st) σ Post := by rw [e]; exact h
theorem z_norm {x : Int32} (h : zV G sh k pc lv (.int (zI x.toInt) :: st) σ Post) : zV G sh k pc lv (.int x :: st) σ Post := by rw [zI_self] at h; exact h
theorem z_raw2 {x : Int32} {y : Value} (h : zV G sh k pc lv (.int (zI x.toInt) :: y :: st) σ Post) : zV G sh k pc lv (.int x :: y :: st) σ Post := by rw [zI_self] at h; exact h
theorem zPe {a b : Int} (h : Post (some (.int (zI b))) σ) (e : a = b) : Post (some (.int (zI a))) σ := by rw [e]; exact h
theorem z_b1 {v : Value} (h : zV G sh k pc lv (v :: st) σ Post) : zV G sh k pc lv ((some v).toList ++ st) σ Post := h
theorem z_b0 (h : zV G sh k pc lv st σ Post) : zV G sh k pc lv ((none : Option Value).toList ++ st) σ Post := h

theorem z_iconst {n : Int} (a : Int) (hd : decode k.2.1 pc = .ok (.iconst n, 1)) (hv : Int32.ofInt n = zI a) (kk : zV G sh k (pc + 1) lv (.int (zI a) :: st) σ Post) : zV G sh k pc lv st σ Post := by
  intro hR p e s m args below meth c H locs A ls C hP hS hl
  exact lv_iconst C.1 C.2.1 hd hv (kk hR p e s m args below meth c H locs A ls C hP hS hl)

theorem z_bipush {n : Int} (a : Int) (hd : decode k.2.1 pc = .ok (.bipush n, 2)) (hv : (Int8.ofInt n).toInt32 = zI a) (kk : zV G sh k (pc + 2) lv (.int (zI a) :: st) σ Post) : zV G sh k pc lv st σ Post := by
  intro hR p e s m args below meth c H locs A ls C hP hS hl
  exact lv_bipush C.1 C.2.1 hd hv (kk hR p e s m args below meth c H locs A ls C hP hS hl)

theorem z_sipush {n : Int} (a : Int) (hd : decode k.2.1 pc = .ok (.sipush n, 3)) (hv : (Int16.ofInt n).toInt32 = zI a) (kk : zV G sh k (pc + 3) lv (.int (zI a) :: st) σ Post) : zV G sh k pc lv st σ Post := by
  intro hR p e s m args below meth c H locs A ls C hP hS hl
  exact lv_sipush C.1 C.2.1 hd hv (kk hR p e s m args below meth c H locs A ls C hP hS hl)

theorem z_ldc {i : Nat} (a : Int) (hd : decode k.2.1 pc = .ok (.ldc i, 2)) (hm : Jvm.Cond.constant k.1.cls i (zI a) ∈ wsL_law0) (kk : zV G sh k (pc + 2) lv (.int (zI a) :: st) σ Post) : zV G sh k pc lv st σ Post := by
  intro hR p e s m args below meth c H locs A ls C hP hS hl
  exact lv_ldc C.1 C.2.1 C.2.2.2.2.2.2.1 (C.2.2.2.2.2.1 _ (List.mem_cons_of_mem _ hm)) hd (kk hR p e s m args below meth c H locs A ls C hP hS hl)
theorem z_null (hd : decode k.2.1 pc = .ok (.aconst_null, 1)) (kk : zV G sh k (pc + 1) lv (.null :: st) σ Post) : zV G sh k pc lv st σ Post := by
  intro hR p e s m args below meth c H locs A ls C hP hS hl
  exact lv_null C.1 C.2.1 hd (kk hR p e s m args below meth c H locs A ls C hP hS hl)

theorem z_iadd {a b : Int} (hd : decode k.2.1 pc = .ok (.iadd, 1)) (kk : zV G sh k (pc + 1) lv (.int (zI (a + b)) :: st) σ Post) : zV G sh k pc lv (.int (zI b) :: .int (zI a) :: st) σ Post := by
  intro hR p e s m args below meth c H locs A ls C hP hS hl
  refine lv_iadd C.1 C.2.1 hd ?_
  rw [zI_add]
  exact kk hR p e s m args below meth c H locs A ls C hP hS hl

theorem z_isub {a b : Int} (hd : decode k.2.1 pc = .ok (.isub, 1)) (kk : zV G sh k (pc + 1) lv (.int (zI (a - b)) :: st) σ Post) : zV G sh k pc lv (.int (zI b) :: .int (zI a) :: st) σ Post := by
  intro hR p e s m args below meth c H locs A ls C hP hS hl
  refine lv_isub C.1 C.2.1 hd ?_
  rw [zI_sub]
  exact kk hR p e s m args below meth c H locs A ls C hP hS hl

theorem z_imul {a b : Int} (hd : decode k.2.1 pc = .ok (.imul, 1)) (kk : zV G sh k (pc + 1) lv (.int (zI (a * b)) :: st) σ Post) : zV G sh k pc lv (.int (zI b) :: .int (zI a) :: st) σ Post := by
  intro hR p e s m args below meth c H locs A ls C hP hS hl
  refine lv_imul C.1 C.2.1 hd ?_
  rw [zI_mul]
  exact kk hR p e s m args below meth c H locs A ls C hP hS hl

theorem z_iand {x y : Int32} (hd : decode k.2.1 pc = .ok (.iand, 1)) (kk : zV G sh k (pc + 1) lv (.int (x &&& y) :: st) σ Post) : zV G sh k pc lv (.int y :: .int x :: st) σ Post := by
  intro hR p e s m args below meth c H locs A ls C hP hS hl
  exact lv_iand C.1 C.2.1 hd (kk hR p e s m args below meth c H locs A ls C hP hS hl)
theorem z_land {x y : Int64} (hd : decode k.2.1 pc = .ok (.land, 1)) (kk : zV G sh k (pc + 1) lv (.long (x &&& y) :: st) σ Post) : zV G sh k pc lv (.long y :: .long x :: st) σ Post := by
  intro hR p e s m args below meth c H locs A ls C hP hS hl
  exact lv_land C.1 C.2.1 hd (kk hR p e s m args below meth c H locs A ls C hP hS hl)
theorem z_lushr {x : Int64} {y : Int32} (hd : decode k.2.1 pc = .ok (.lushr, 1)) (kk : zV G sh k (pc + 1) lv (.long (x.toUInt64 >>> (y.toInt64.toUInt64 &&& Int64.toUInt64 63)).toInt64 :: st) σ Post) : zV G sh k pc lv (.int y :: .long x :: st) σ Post := by
  intro hR p e s m args below meth c H locs A ls C hP hS hl
  exact lv_lushr C.1 C.2.1 hd rfl (kk hR p e s m args below meth c H locs A ls C hP hS hl)
theorem z_lshr {x : Int64} {y : Int32} (hd : decode k.2.1 pc = .ok (.lshr, 1)) (kk : zV G sh k (pc + 1) lv (.long (x >>> (y.toInt64 &&& 63)) :: st) σ Post) : zV G sh k pc lv (.int y :: .long x :: st) σ Post := by
  intro hR p e s m args below meth c H locs A ls C hP hS hl
  exact lv_lshr C.1 C.2.1 hd rfl (kk hR p e s m args below meth c H locs A ls C hP hS hl)
theorem z_l2i {x : Int64} (hd : decode k.2.1 pc = .ok (.l2i, 1)) (kk : zV G sh k (pc + 1) lv (.int x.toInt32 :: st) σ Post) : zV G sh k pc lv (.long x :: st) σ Post := by
  intro hR p e s m args below meth c H locs A ls C hP hS hl
  exact lv_l2i C.1 C.2.1 hd rfl (kk hR p e s m args below meth c H locs A ls C hP hS hl)
theorem z_ldc2 {i : Nat} (x : Int64) (hd : decode k.2.1 pc = .ok (.ldc2_w i, 3)) (hm : Jvm.Cond.constantLong k.1.cls i x ∈ wsL_law0) (kk : zV G sh k (pc + 3) lv (.long x :: st) σ Post) : zV G sh k pc lv st σ Post := by
  intro hR p e s m args below meth c H locs A ls C hP hS hl
  exact lv_ldc2 C.1 C.2.1 C.2.2.2.2.2.2.1 (C.2.2.2.2.2.1 _ (List.mem_cons_of_mem _ hm)) hd (kk hR p e s m args below meth c H locs A ls C hP hS hl)
theorem z_dup {v : Value} (hd : decode k.2.1 pc = .ok (.dup, 1)) (hc : zc1 (some v) = true) (kk : zV G sh k (pc + 1) lv (v :: v :: st) σ Post) : zV G sh k pc lv (v :: st) σ Post := by
  intro hR p e s m args below meth c H locs A ls C hP hS hl
  exact lv_dup C.1 C.2.1 hd (zc1_spec hc) (kk hR p e s m args below meth c H locs A ls C hP hS hl)
theorem z_dup2 {v w : Value} (hd : decode k.2.1 pc = .ok (.dup2, 1)) (hc : zc1 (some v) = true) (hc' : zc1 (some w) = true) (kk : zV G sh k (pc + 1) lv (v :: w :: v :: w :: st) σ Post) : zV G sh k pc lv (v :: w :: st) σ Post := by
  intro hR p e s m args below meth c H locs A ls C hP hS hl
  exact lv_dup2_11 C.1 C.2.1 hd (zc1_spec hc) (zc1_spec hc') (kk hR p e s m args below meth c H locs A ls C hP hS hl)
theorem z_goto {off : Int} {tgt : Nat} (hd : decode k.2.1 pc = .ok (.goto off, 3)) (ht : (pc : Int) + off = (tgt : Int)) (kk : zV G sh k tgt lv st σ Post) : zV G sh k pc lv st σ Post := by
  intro hR p e s m args below meth c H locs A ls C hP hS hl
  exact lv_goto C.1 C.2.1 hd ht (kk hR p e s m args below meth c H locs A ls C hP hS hl)
theorem z_ifnull {x : Nat} {off : Int} (hd : decode k.2.1 pc = .ok (.ifnull off, 3)) (kk : zV G sh k (pc + 3) lv st σ Post) : zV G sh k pc lv (.ref x :: st) σ Post := by
  intro hR p e s m args below meth c H locs A ls C hP hS hl
  exact lv_ifnull C.1 C.2.1 hd (kk hR p e s m args below meth c H locs A ls C hP hS hl)
theorem z_ifnullN {off : Int} {tgt : Nat} (hd : decode k.2.1 pc = .ok (.ifnull off, 3)) (ht : (pc : Int) + off = (tgt : Int)) (kk : zV G sh k tgt lv st σ Post) : zV G sh k pc lv (.null :: st) σ Post := by
  intro hR p e s m args below meth c H locs A ls C hP hS hl
  exact lv_ifnullN C.1 C.2.1 hd ht (kk hR p e s m args below meth c H locs A ls C hP hS hl)
theorem z_ifnonnull {x : Nat} {off : Int} {tgt : Nat} (hd : decode k.2.1 pc = .ok (.ifnonnull off, 3)) (ht : (pc : Int) + off = (tgt : Int)) (kk : zV G sh k tgt lv st σ Post) : zV G sh k pc lv (.ref x :: st) σ Post := by
  intro hR p e s m args below meth c H locs A ls C hP hS hl
  exact lv_ifnonnull C.1 C.2.1 hd ht (kk hR p e s m args below meth c H locs A ls C hP hS hl)
theorem z_ifnonnullN {off : Int} (hd : decode k.2.1 pc = .ok (.ifnonnull off, 3)) (kk : zV G sh k (pc + 3) lv st σ Post) : zV G sh k pc lv (.null :: st) σ Post := by
  intro hR p e s m args below meth c H locs A ls C hP hS hl
  exact lv_ifnonnullN C.1 C.2.1 hd (kk hR p e s m args below meth c H locs A ls C hP hS hl)

theorem z_icmp_lt {a b : Int} {off : Int} {tgt : Nat} (hd : decode k.2.1 pc = .ok (.if_icmp .lt off, 3)) (ht : (pc : Int) + off = (tgt : Int)) (ha : zR a) (hb : zR b) (kt : a < b → zV G sh k tgt lv st σ Post) (kf : b ≤ a → zV G sh k (pc + 3) lv st σ Post) : zV G sh k pc lv (.int (zI b) :: .int (zI a) :: st) σ Post := by
  intro hR p e s m args below meth c H locs A ls C hP hS hl
  exact lv_icmp_lt C.1 C.2.1 hd ht (fun q => kt ((zI_lt ha hb).mp q) hR p e s m args below meth c H locs A ls C hP hS hl) (fun q => kf (Int.not_lt.mp (fun h => q ((zI_lt ha hb).mpr h))) hR p e s m args below meth c H locs A ls C hP hS hl)
theorem z_if_lt {a : Int} {off : Int} {tgt : Nat} (hd : decode k.2.1 pc = .ok (.ifCond .lt off, 3)) (ht : (pc : Int) + off = (tgt : Int)) (ha : zR a) (kt : a < 0 → zV G sh k tgt lv st σ Post) (kf : 0 ≤ a → zV G sh k (pc + 3) lv st σ Post) : zV G sh k pc lv (.int (zI a) :: st) σ Post := by
  intro hR p e s m args below meth c H locs A ls C hP hS hl
  exact lv_if_lt C.1 C.2.1 hd ht (fun q => kt ((zI_lt0 ha).mp q) hR p e s m args below meth c H locs A ls C hP hS hl) (fun q => kf (Int.not_lt.mp (fun h => q ((zI_lt0 ha).mpr h))) hR p e s m args below meth c H locs A ls C hP hS hl)

theorem z_icmp_ge {a b : Int} {off : Int} {tgt : Nat} (hd : decode k.2.1 pc = .ok (.if_icmp .ge off, 3)) (ht : (pc : Int) + off = (tgt : Int)) (ha : zR a) (hb : zR b) (kt : b ≤ a → zV G sh k tgt lv st σ Post) (kf : a < b → zV G sh k (pc + 3) lv st σ Post) : zV G sh k pc lv (.int (zI b) :: .int (zI a) :: st) σ Post := by
  intro hR p e s m args below meth c H locs A ls C hP hS hl
  exact lv_icmp_ge C.1 C.2.1 hd ht (fun q => kt ((zI_le hb ha).mp q) hR p e s m args below meth c H locs A ls C hP hS hl) (fun q => kf (Int.not_le.mp (fun h => q ((zI_le hb ha).mpr h))) hR p e s m args below meth c H locs A ls C hP hS hl)
theorem z_if_ge {a : Int} {off : Int} {tgt : Nat} (hd : decode k.2.1 pc = .ok (.ifCond .ge off, 3)) (ht : (pc : Int) + off = (tgt : Int)) (ha : zR a) (kt : 0 ≤ a → zV G sh k tgt lv st σ Post) (kf : a < 0 → zV G sh k (pc + 3) lv st σ Post) : zV G sh k pc lv (.int (zI a) :: st) σ Post := by
  intro hR p e s m args below meth c H locs A ls C hP hS hl
  exact lv_if_ge C.1 C.2.1 hd ht (fun q => kt ((zI_ge0 ha).mp q) hR p e s m args below meth c H locs A ls C hP hS hl) (fun q => kf (Int.not_le.mp (fun h => q ((zI_ge0 ha).mpr h))) hR p e s m args below meth c H locs A ls C hP hS hl)

theorem z_icmp_gt {a b : Int} {off : Int} {tgt : Nat} (hd : decode k.2.1 pc = .ok (.if_icmp .gt off, 3)) (ht : (pc : Int) + off = (tgt : Int)) (ha : zR a) (hb : zR b) (kt : b < a → zV G sh k tgt lv st σ Post) (kf : a ≤ b → zV G sh k (pc + 3) lv st σ Post) : zV G sh k pc lv (.int (zI b) :: .int (zI a) :: st) σ Post := by
  intro hR p e s m args below meth c H locs A ls C hP hS hl
  exact lv_icmp_gt C.1 C.2.1 hd ht (fun q => kt ((zI_lt hb ha).mp q) hR p e s m args below meth c H locs A ls C hP hS hl) (fun q => kf (Int.not_lt.mp (fun h => q ((zI_lt hb ha).mpr h))) hR p e s m args below meth c H locs A ls C hP hS hl)
theorem z_if_gt {a : Int} {off : Int} {tgt : Nat} (hd : decode k.2.1 pc = .ok (.ifCond .gt off, 3)) (ht : (pc : Int) + off = (tgt : Int)) (ha : zR a) (kt : 0 < a → zV G sh k tgt lv st σ Post) (kf : a ≤ 0 → zV G sh k (pc + 3) lv st σ Post) : zV G sh k pc lv (.int (zI a) :: st) σ Post := by
  intro hR p e s m args below meth c H locs A ls C hP hS hl
  exact lv_if_gt C.1 C.2.1 hd ht (fun q => kt ((zI_gt0 ha).mp q) hR p e s m args below meth c H locs A ls C hP hS hl) (fun q => kf (Int.not_lt.mp (fun h => q ((zI_gt0 ha).mpr h))) hR p e s m args below meth c H locs A ls C hP hS hl)

theorem z_icmp_le {a b : Int} {off : Int} {tgt : Nat} (hd : decode k.2.1 pc = .ok (.if_icmp .le off, 3)) (ht : (pc : Int) + off = (tgt : Int)) (ha : zR a) (hb : zR b) (kt : a ≤ b → zV G sh k tgt lv st σ Post) (kf : b < a → zV G sh k (pc + 3) lv st σ Post) : zV G sh k pc lv (.int (zI b) :: .int (zI a) :: st) σ Post := by
  intro hR p e s m args below meth c H locs A ls C hP hS hl
  exact lv_icmp_le C.1 C.2.1 hd ht (fun q => kt ((zI_le ha hb).mp q) hR p e s m args below meth c H locs A ls C hP hS hl) (fun q => kf (Int.not_le.mp (fun h => q ((zI_le ha hb).mpr h))) hR p e s m args below meth c H locs A ls C hP hS hl)
theorem z_if_le {a : Int} {off : Int} {tgt : Nat} (hd : decode k.2.1 pc = .ok (.ifCond .le off, 3)) (ht : (pc : Int) + off = (tgt : Int)) (ha : zR a) (kt : a ≤ 0 → zV G sh k tgt lv st σ Post) (kf : 0 < a → zV G sh k (pc + 3) lv st σ Post) : zV G sh k pc lv (.int (zI a) :: st) σ Post := by
  intro hR p e s m args below meth c H locs A ls C hP hS hl
  exact lv_if_le C.1 C.2.1 hd ht (fun q => kt ((zI_le0 ha).mp q) hR p e s m args below meth c H locs A ls C hP hS hl) (fun q => kf (Int.not_le.mp (fun h => q ((zI_le0 ha).mpr h))) hR p e s m args below meth c H locs A ls C hP hS hl)

theorem z_icmp_eq {a b : Int} {off : Int} {tgt : Nat} (hd : decode k.2.1 pc = .ok (.if_icmp .eq off, 3)) (ht : (pc : Int) + off = (tgt : Int)) (ha : zR a) (hb : zR b) (kt : a = b → zV G sh k tgt lv st σ Post) (kf : a ≠ b → zV G sh k (pc + 3) lv st σ Post) : zV G sh k pc lv (.int (zI b) :: .int (zI a) :: st) σ Post := by
  intro hR p e s m args below meth c H locs A ls C hP hS hl
  exact lv_icmp_eq C.1 C.2.1 hd ht (fun q => kt ((zI_eq ha hb).mp q) hR p e s m args below meth c H locs A ls C hP hS hl) (fun q => kf (fun h => q ((zI_eq ha hb).mpr h)) hR p e s m args below meth c H locs A ls C hP hS hl)
theorem z_if_eq {a : Int} {off : Int} {tgt : Nat} (hd : decode k.2.1 pc = .ok (.ifCond .eq off, 3)) (ht : (pc : Int) + off = (tgt : Int)) (ha : zR a) (kt : a = 0 → zV G sh k tgt lv st σ Post) (kf : a ≠ 0 → zV G sh k (pc + 3) lv st σ Post) : zV G sh k pc lv (.int (zI a) :: st) σ Post := by
  intro hR p e s m args below meth c H locs A ls C hP hS hl
  exact lv_if_eq C.1 C.2.1 hd ht (fun q => kt ((zI_eq0 ha).mp q) hR p e s m args below meth c H locs A ls C hP hS hl) (fun q => kf (fun h => q ((zI_eq0 ha).mpr h)) hR p e s m args below meth c H locs A ls C hP hS hl)

theorem z_icmp_ne {a b : Int} {off : Int} {tgt : Nat} (hd : decode k.2.1 pc = .ok (.if_icmp .ne off, 3)) (ht : (pc : Int) + off = (tgt : Int)) (ha : zR a) (hb : zR b) (kt : a ≠ b → zV G sh k tgt lv st σ Post) (kf : a = b → zV G sh k (pc + 3) lv st σ Post) : zV G sh k pc lv (.int (zI b) :: .int (zI a) :: st) σ Post := by
  intro hR p e s m args below meth c H locs A ls C hP hS hl
  exact lv_icmp_ne C.1 C.2.1 hd ht (fun q => kt (fun h => q ((zI_eq ha hb).mpr h)) hR p e s m args below meth c H locs A ls C hP hS hl) (fun q => kf ((zI_eq ha hb).mp q) hR p e s m args below meth c H locs A ls C hP hS hl)
theorem z_if_ne {a : Int} {off : Int} {tgt : Nat} (hd : decode k.2.1 pc = .ok (.ifCond .ne off, 3)) (ht : (pc : Int) + off = (tgt : Int)) (ha : zR a) (kt : a ≠ 0 → zV G sh k tgt lv st σ Post) (kf : a = 0 → zV G sh k (pc + 3) lv st σ Post) : zV G sh k pc lv (.int (zI a) :: st) σ Post := by
  intro hR p e s m args below meth c H locs A ls C hP hS hl
  exact lv_if_ne C.1 C.2.1 hd ht (fun q => kt (fun h => q ((zI_eq0 ha).mpr h)) hR p e s m args below meth c H locs A ls C hP hS hl) (fun q => kf ((zI_eq0 ha).mp q) hR p e s m args below meth c H locs A ls C hP hS hl)

theorem z_tabIn {dflt lo hi : Int} {offs : Array Int} {len : Nat} (a : Int) {off : Int} {tgt : Nat} (hd : decode k.2.1 pc = .ok (.tableswitch dflt lo hi offs, len)) (ha : zR a) (h1 : ¬ a < lo) (h2 : ¬ hi < a) (ho : offs[(a - lo).toNat]? = some off) (ht : (pc : Int) + off = (tgt : Int)) (kk : zV G sh k tgt lv st σ Post) : zV G sh k pc lv (.int (zI a) :: st) σ Post := by
  intro hR p e s m args below meth c H locs A ls C hP hS hl
  exact lv_tableIn C.1 C.2.1 hd (by rw [zI_toInt ha]; exact h1) (by rw [zI_toInt ha]; exact h2) (by rw [zI_toInt ha]; exact ho) ht (kk hR p e s m args below meth c H locs A ls C hP hS hl)
theorem z_tabOut {dflt lo hi : Int} {offs : Array Int} {len : Nat} {a : Int} {tgt : Nat} (hd : decode k.2.1 pc = .ok (.tableswitch dflt lo hi offs, len)) (ha : zR a) (h : a < lo ∨ hi < a) (ht : (pc : Int) + dflt = (tgt : Int)) (kk : zV G sh k tgt lv st σ Post) : zV G sh k pc lv (.int (zI a) :: st) σ Post := by
  intro hR p e s m args below meth c H locs A ls C hP hS hl
  exact lv_tableOut C.1 C.2.1 hd (by rw [zI_toInt ha]; exact h) ht (kk hR p e s m args below meth c H locs A ls C hP hS hl)

theorem z_iloadN {q : Fin 4} {i : Nat} {x : Int32} (hd : decode k.2.1 pc = .ok (.iload_n q, 1)) (hi : (q : Nat) = i) (h : lv[i]? = some (some (.int x))) (kk : zV G sh k (pc + 1) lv (.int x :: st) σ Post) : zV G sh k pc lv st σ Post := by
  intro hR p e s m args below meth c H locs A ls C hP hS hl
  exact lv_iload_n C.1 C.2.1 hd hi (zlv_at hl h) (kk hR p e s m args below meth c H locs A ls C hP hS hl)
theorem z_iloadW {i : Nat} {x : Int32} (hd : decode k.2.1 pc = .ok (.iload i, 2)) (h : lv[i]? = some (some (.int x))) (kk : zV G sh k (pc + 2) lv (.int x :: st) σ Post) : zV G sh k pc lv st σ Post := by
  intro hR p e s m args below meth c H locs A ls C hP hS hl
  exact lv_iload C.1 C.2.1 hd (zlv_at hl h) (kk hR p e s m args below meth c H locs A ls C hP hS hl)
theorem z_aloadN {q : Fin 4} {i : Nat} {x : Nat} (hd : decode k.2.1 pc = .ok (.aload_n q, 1)) (hi : (q : Nat) = i) (h : lv[i]? = some (some (.ref x))) (kk : zV G sh k (pc + 1) lv (.ref x :: st) σ Post) : zV G sh k pc lv st σ Post := by
  intro hR p e s m args below meth c H locs A ls C hP hS hl
  exact lv_aload_n C.1 C.2.1 hd hi (zlv_at hl h) (kk hR p e s m args below meth c H locs A ls C hP hS hl)
theorem z_aloadW {i : Nat} {x : Nat} (hd : decode k.2.1 pc = .ok (.aload i, 2)) (h : lv[i]? = some (some (.ref x))) (kk : zV G sh k (pc + 2) lv (.ref x :: st) σ Post) : zV G sh k pc lv st σ Post := by
  intro hR p e s m args below meth c H locs A ls C hP hS hl
  exact lv_aload C.1 C.2.1 hd (zlv_at hl h) (kk hR p e s m args below meth c H locs A ls C hP hS hl)
theorem z_aloadNN {q : Fin 4} {i : Nat} (hd : decode k.2.1 pc = .ok (.aload_n q, 1)) (hi : (q : Nat) = i) (h : lv[i]? = some (some .null)) (kk : zV G sh k (pc + 1) lv (.null :: st) σ Post) : zV G sh k pc lv st σ Post := by
  intro hR p e s m args below meth c H locs A ls C hP hS hl
  exact lv_aload_nN C.1 C.2.1 hd hi (zlv_at hl h) (kk hR p e s m args below meth c H locs A ls C hP hS hl)
theorem z_lloadN {q : Fin 4} {i : Nat} {x : Int64} (hd : decode k.2.1 pc = .ok (.lload_n q, 1)) (hi : (q : Nat) = i) (h : lv[i]? = some (some (.long x))) (kk : zV G sh k (pc + 1) lv (.long x :: st) σ Post) : zV G sh k pc lv st σ Post := by
  intro hR p e s m args below meth c H locs A ls C hP hS hl
  exact lv_lload_n C.1 C.2.1 hd hi (zlv_at hl h) (kk hR p e s m args below meth c H locs A ls C hP hS hl)
def zpv (lv : List (Option Value)) (i : Nat) : Prop := ∀ j o, j + 1 = i → lv[j]? = some o → zc1 o = true
theorem z_istoreN {q : Fin 4} {i : Nat} {x : Int32} (hd : decode k.2.1 pc = .ok (.istore_n q, 1)) (hi : (q : Nat) = i) (hil : i < lv.length) (hin : i < k.2.2.1) (hp : zpv lv i) (kk : zV G sh k (pc + 1) (lv.set i (some (.int x))) st σ Post) : zV G sh k pc lv (.int x :: st) σ Post := by
  intro hR p e s m args below meth c H locs A ls C hP hS hl
  exact lv_istore_n C.1 C.2.1 hd hi hl hin rfl (fun ls' hl' => kk hR p e s m args below meth c H locs A ls' C hP hS (zlv_set hil hp hl'))
theorem z_istoreW {i : Nat} {x : Int32} (hd : decode k.2.1 pc = .ok (.istore i, 2)) (hil : i < lv.length) (hin : i < k.2.2.1) (hp : zpv lv i) (kk : zV G sh k (pc + 2) (lv.set i (some (.int x))) st σ Post) : zV G sh k pc lv (.int x :: st) σ Post := by
  intro hR p e s m args below meth c H locs A ls C hP hS hl
  exact lv_istore C.1 C.2.1 hd hl hin rfl (fun ls' hl' => kk hR p e s m args below meth c H locs A ls' C hP hS (zlv_set hil hp hl'))
theorem z_astoreN {q : Fin 4} {i : Nat} {x : Nat} (hd : decode k.2.1 pc = .ok (.astore_n q, 1)) (hi : (q : Nat) = i) (hil : i < lv.length) (hin : i < k.2.2.1) (hp : zpv lv i) (kk : zV G sh k (pc + 1) (lv.set i (some (.ref x))) st σ Post) : zV G sh k pc lv (.ref x :: st) σ Post := by
  intro hR p e s m args below meth c H locs A ls C hP hS hl
  exact lv_astore_n C.1 C.2.1 hd hi hl hin rfl (fun ls' hl' => kk hR p e s m args below meth c H locs A ls' C hP hS (zlv_set hil hp hl'))
theorem z_astoreNN {q : Fin 4} {i : Nat} (hd : decode k.2.1 pc = .ok (.astore_n q, 1)) (hi : (q : Nat) = i) (hil : i < lv.length) (hin : i < k.2.2.1) (hp : zpv lv i) (kk : zV G sh k (pc + 1) (lv.set i (some .null)) st σ Post) : zV G sh k pc lv (.null :: st) σ Post := by
  intro hR p e s m args below meth c H locs A ls C hP hS hl
  exact lv_astore_nN C.1 C.2.1 hd hi hl hin rfl (fun ls' hl' => kk hR p e s m args below meth c H locs A ls' C hP hS (zlv_set hil hp hl'))
theorem z_iincN {i : Nat} {n a : Int} (hd : decode k.2.1 pc = .ok (.iinc i n, 3)) (h : lv[i]? = some (some (.int (zI a)))) (hin : i < k.2.2.1) (hp : zpv lv i) (kk : zV G sh k (pc + 3) (lv.set i (some (.int (zI (a + n))))) st σ Post) : zV G sh k pc lv st σ Post := by
  intro hR p e s m args below meth c H locs A ls C hP hS hl
  obtain ⟨q, hq⟩ := List.getElem?_of_mem ((zlv_mem 0 (i, Value.int (zI a))).mpr ⟨i, h, by omega⟩)
  exact lv_iinc C.1 C.2.1 hd hl hq (zI_add a n) hin rfl (fun ls' hl' => kk hR p e s m args below meth c H locs A ls' C hP hS (zlv_set (List.getElem?_eq_some_iff.mp h).1 hp hl'))
theorem z_iincW {i : Nat} {n a : Int} (hd : decode k.2.1 pc = .ok (.iinc i n, 6)) (h : lv[i]? = some (some (.int (zI a)))) (hin : i < k.2.2.1) (hp : zpv lv i) (kk : zV G sh k (pc + 6) (lv.set i (some (.int (zI (a + n))))) st σ Post) : zV G sh k pc lv st σ Post := by
  intro hR p e s m args below meth c H locs A ls C hP hS hl
  obtain ⟨q, hq⟩ := List.getElem?_of_mem ((zlv_mem 0 (i, Value.int (zI a))).mpr ⟨i, h, by omega⟩)
  exact lv_iincW C.1 C.2.1 hd hl hq (zI_add a n) hin rfl (fun ls' hl' => kk hR p e s m args below meth c H locs A ls' C hP hS (zlv_set (List.getElem?_eq_some_iff.mp h).1 hp hl'))
theorem zpv0 : zpv lv 0 := fun _ _ h => by omega
theorem zpvS {i : Nat} {o : Option Value} (h : lv[i]? = some o) (hc : zc1 o = true) : zpv lv (i + 1) := fun j o' hj ho => by
  have : j = i := by omega
  subst this
  rw [h] at ho; cases ho; exact hc

theorem z_iload_0 {x : Int32} {tl : List (Option Value)} (hd : decode k.2.1 pc = .ok (.iload_n 0, 1)) (kk : zV G sh k (pc + 1) (some (.int x) :: tl) (.int x :: st) σ Post) : zV G sh k pc (some (.int x) :: tl) st σ Post := z_iloadN hd rfl rfl kk

theorem z_aload_0 {x : Nat} {tl : List (Option Value)} (hd : decode k.2.1 pc = .ok (.aload_n 0, 1)) (kk : zV G sh k (pc + 1) (some (.ref x) :: tl) (.ref x :: st) σ Post) : zV G sh k pc (some (.ref x) :: tl) st σ Post := z_aloadN hd rfl rfl kk

theorem z_istore_0 {o : Option Value} {x : Int32} {tl : List (Option Value)} (hd : decode k.2.1 pc = .ok (.istore_n 0, 1)) (hin : 0 < k.2.2.1) (kk : zV G sh k (pc + 1) (some (.int x) :: tl) st σ Post) : zV G sh k pc (o :: tl) (.int x :: st) σ Post := z_istoreN (i := 0) hd rfl (by simp) hin zpv0 kk

theorem z_astore_0 {o : Option Value} {x : Nat} {tl : List (Option Value)} (hd : decode k.2.1 pc = .ok (.astore_n 0, 1)) (hin : 0 < k.2.2.1) (kk : zV G sh k (pc + 1) (some (.ref x) :: tl) st σ Post) : zV G sh k pc (o :: tl) (.ref x :: st) σ Post := z_astoreN (i := 0) hd rfl (by simp) hin zpv0 kk

theorem z_iinc_0 {n a : Int} {tl : List (Option Value)} (hd : decode k.2.1 pc = .ok (.iinc 0 n, 3)) (hin : 0 < k.2.2.1) (kk : zV G sh k (pc + 3) (some (.int (zI (a + n))) :: tl) st σ Post) : zV G sh k pc (some (.int (zI a)) :: tl) st σ Post := z_iincN hd rfl hin zpv0 kk

theorem z_iincw_0 {n a : Int} {tl : List (Option Value)} (hd : decode k.2.1 pc = .ok (.iinc 0 n, 6)) (hin : 0 < k.2.2.1) (kk : zV G sh k (pc + 6) (some (.int (zI (a + n))) :: tl) st σ Post) : zV G sh k pc (some (.int (zI a)) :: tl) st σ Post := z_iincW hd rfl hin zpv0 kk

theorem z_iload_1 {a0 : Option Value} {x : Int32} {tl : List (Option Value)} (hd : decode k.2.1 pc = .ok (.iload_n 1, 1)) (kk : zV G sh k (pc + 1) (a0 :: some (.int x) :: tl) (.int x :: st) σ Post) : zV G sh k pc (a0 :: some (.int x) :: tl) st σ Post := z_iloadN hd rfl rfl kk

theorem z_aload_1 {a0 : Option Value} {x : Nat} {tl : List (Option Value)} (hd : decode k.2.1 pc = .ok (.aload_n 1, 1)) (kk : zV G sh k (pc + 1) (a0 :: some (.ref x) :: tl) (.ref x :: st) σ Post) : zV G sh k pc (a0 :: some (.ref x) :: tl) st σ Post := z_aloadN hd rfl rfl kk

theorem z_istore_1 {a0 : Option Value} {o : Option Value} {x : Int32} {tl : List (Option Value)} (hd : decode k.2.1 pc = .ok (.istore_n 1, 1)) (hin : 1 < k.2.2.1) (hp : zc1 a0 = true) (kk : zV G sh k (pc + 1) (a0 :: some (.int x) :: tl) st σ Post) : zV G sh k pc (a0 :: o :: tl) (.int x :: st) σ Post := z_istoreN (i := 1) hd rfl (by simp) hin (zpvS (o := a0) rfl hp) kk

theorem z_astore_1 {a0 : Option Value} {o : Option Value} {x : Nat} {tl : List (Option Value)} (hd : decode k.2.1 pc = .ok (.astore_n 1, 1)) (hin : 1 < k.2.2.1) (hp : zc1 a0 = true) (kk : zV G sh k (pc + 1) (a0 :: some (.ref x) :: tl) st σ Post) : zV G sh k pc (a0 :: o :: tl) (.ref x :: st) σ Post := z_astoreN (i := 1) hd rfl (by simp) hin (zpvS (o := a0) rfl hp) kk

theorem z_iinc_1 {a0 : Option Value} {n a : Int} {tl : List (Option Value)} (hd : decode k.2.1 pc = .ok (.iinc 1 n, 3)) (hin : 1 < k.2.2.1) (hp : zc1 a0 = true) (kk : zV G sh k (pc + 3) (a0 :: some (.int (zI (a + n))) :: tl) st σ Post) : zV G sh k pc (a0 :: some (.int (zI a)) :: tl) st σ Post := z_iincN hd rfl hin (zpvS (o := a0) rfl hp) kk

theorem z_iincw_1 {a0 : Option Value} {n a : Int} {tl : List (Option Value)} (hd : decode k.2.1 pc = .ok (.iinc 1 n, 6)) (hin : 1 < k.2.2.1) (hp : zc1 a0 = true) (kk : zV G sh k (pc + 6) (a0 :: some (.int (zI (a + n))) :: tl) st σ Post) : zV G sh k pc (a0 :: some (.int (zI a)) :: tl) st σ Post := z_iincW hd rfl hin (zpvS (o := a0) rfl hp) kk

theorem z_iload_2 {a0 a1 : Option Value} {x : Int32} {tl : List (Option Value)} (hd : decode k.2.1 pc = .ok (.iload_n 2, 1)) (kk : zV G sh k (pc + 1) (a0 :: a1 :: some (.int x) :: tl) (.int x :: st) σ Post) : zV G sh k pc (a0 :: a1 :: some (.int x) :: tl) st σ Post := z_iloadN hd rfl rfl kk

theorem z_aload_2 {a0 a1 : Option Value} {x : Nat} {tl : List (Option Value)} (hd : decode k.2.1 pc = .ok (.aload_n 2, 1)) (kk : zV G sh k (pc + 1) (a0 :: a1 :: some (.ref x) :: tl) (.ref x :: st) σ Post) : zV G sh k pc (a0 :: a1 :: some (.ref x) :: tl) st σ Post := z_aloadN hd rfl rfl kk

theorem z_istore_2 {a0 a1 : Option Value} {o : Option Value} {x : Int32} {tl : List (Option Value)} (hd : decode k.2.1 pc = .ok (.istore_n 2, 1)) (hin : 2 < k.2.2.1) (hp : zc1 a1 = true) (kk : zV G sh k (pc + 1) (a0 :: a1 :: some (.int x) :: tl) st σ Post) : zV G sh k pc (a0 :: a1 :: o :: tl) (.int x :: st) σ Post := z_istoreN (i := 2) hd rfl (by simp) hin (zpvS (o := a1) rfl hp) kk

theorem z_astore_2 {a0 a1 : Option Value} {o : Option Value} {x : Nat} {tl : List (Option Value)} (hd : decode k.2.1 pc = .ok (.astore_n 2, 1)) (hin : 2 < k.2.2.1) (hp : zc1 a1 = true) (kk : zV G sh k (pc + 1) (a0 :: a1 :: some (.ref x) :: tl) st σ Post) : zV G sh k pc (a0 :: a1 :: o :: tl) (.ref x :: st) σ Post := z_astoreN (i := 2) hd rfl (by simp) hin (zpvS (o := a1) rfl hp) kk

theorem z_iinc_2 {a0 a1 : Option Value} {n a : Int} {tl : List (Option Value)} (hd : decode k.2.1 pc = .ok (.iinc 2 n, 3)) (hin : 2 < k.2.2.1) (hp : zc1 a1 = true) (kk : zV G sh k (pc + 3) (a0 :: a1 :: some (.int (zI (a + n))) :: tl) st σ Post) : zV G sh k pc (a0 :: a1 :: some (.int (zI a)) :: tl) st σ Post := z_iincN hd rfl hin (zpvS (o := a1) rfl hp) kk

theorem z_iincw_2 {a0 a1 : Option Value} {n a : Int} {tl : List (Option Value)} (hd : decode k.2.1 pc = .ok (.iinc 2 n, 6)) (hin : 2 < k.2.2.1) (hp : zc1 a1 = true) (kk : zV G sh k (pc + 6) (a0 :: a1 :: some (.int (zI (a + n))) :: tl) st σ Post) : zV G sh k pc (a0 :: a1 :: some (.int (zI a)) :: tl) st σ Post := z_iincW hd rfl hin (zpvS (o := a1) rfl hp) kk

theorem z_iload_3 {a0 a1 a2 : Option Value} {x : Int32} {tl : List (Option Value)} (hd : decode k.2.1 pc = .ok (.iload_n 3, 1)) (kk : zV G sh k (pc + 1) (a0 :: a1 :: a2 :: some (.int x) :: tl) (.int x :: st) σ Post) : zV G sh k pc (a0 :: a1 :: a2 :: some (.int x) :: tl) st σ Post := z_iloadN hd rfl rfl kk

theorem z_aload_3 {a0 a1 a2 : Option Value} {x : Nat} {tl : List (Option Value)} (hd : decode k.2.1 pc = .ok (.aload_n 3, 1)) (kk : zV G sh k (pc + 1) (a0 :: a1 :: a2 :: some (.ref x) :: tl) (.ref x :: st) σ Post) : zV G sh k pc (a0 :: a1 :: a2 :: some (.ref x) :: tl) st σ Post := z_aloadN hd rfl rfl kk

theorem z_istore_3 {a0 a1 a2 : Option Value} {o : Option Value} {x : Int32} {tl : List (Option Value)} (hd : decode k.2.1 pc = .ok (.istore_n 3, 1)) (hin : 3 < k.2.2.1) (hp : zc1 a2 = true) (kk : zV G sh k (pc + 1) (a0 :: a1 :: a2 :: some (.int x) :: tl) st σ Post) : zV G sh k pc (a0 :: a1 :: a2 :: o :: tl) (.int x :: st) σ Post := z_istoreN (i := 3) hd rfl (by simp) hin (zpvS (o := a2) rfl hp) kk

theorem z_astore_3 {a0 a1 a2 : Option Value} {o : Option Value} {x : Nat} {tl : List (Option Value)} (hd : decode k.2.1 pc = .ok (.astore_n 3, 1)) (hin : 3 < k.2.2.1) (hp : zc1 a2 = true) (kk : zV G sh k (pc + 1) (a0 :: a1 :: a2 :: some (.ref x) :: tl) st σ Post) : zV G sh k pc (a0 :: a1 :: a2 :: o :: tl) (.ref x :: st) σ Post := z_astoreN (i := 3) hd rfl (by simp) hin (zpvS (o := a2) rfl hp) kk

theorem z_iinc_3 {a0 a1 a2 : Option Value} {n a : Int} {tl : List (Option Value)} (hd : decode k.2.1 pc = .ok (.iinc 3 n, 3)) (hin : 3 < k.2.2.1) (hp : zc1 a2 = true) (kk : zV G sh k (pc + 3) (a0 :: a1 :: a2 :: some (.int (zI (a + n))) :: tl) st σ Post) : zV G sh k pc (a0 :: a1 :: a2 :: some (.int (zI a)) :: tl) st σ Post := z_iincN hd rfl hin (zpvS (o := a2) rfl hp) kk

theorem z_iincw_3 {a0 a1 a2 : Option Value} {n a : Int} {tl : List (Option Value)} (hd : decode k.2.1 pc = .ok (.iinc 3 n, 6)) (hin : 3 < k.2.2.1) (hp : zc1 a2 = true) (kk : zV G sh k (pc + 6) (a0 :: a1 :: a2 :: some (.int (zI (a + n))) :: tl) st σ Post) : zV G sh k pc (a0 :: a1 :: a2 :: some (.int (zI a)) :: tl) st σ Post := z_iincW hd rfl hin (zpvS (o := a2) rfl hp) kk

theorem z_iload_4 {a0 a1 a2 a3 : Option Value} {x : Int32} {tl : List (Option Value)} (hd : decode k.2.1 pc = .ok (.iload 4, 2)) (kk : zV G sh k (pc + 2) (a0 :: a1 :: a2 :: a3 :: some (.int x) :: tl) (.int x :: st) σ Post) : zV G sh k pc (a0 :: a1 :: a2 :: a3 :: some (.int x) :: tl) st σ Post := z_iloadW hd rfl kk

theorem z_aload_4 {a0 a1 a2 a3 : Option Value} {x : Nat} {tl : List (Option Value)} (hd : decode k.2.1 pc = .ok (.aload 4, 2)) (kk : zV G sh k (pc + 2) (a0 :: a1 :: a2 :: a3 :: some (.ref x) :: tl) (.ref x :: st) σ Post) : zV G sh k pc (a0 :: a1 :: a2 :: a3 :: some (.ref x) :: tl) st σ Post := z_aloadW hd rfl kk

theorem z_istore_4 {a0 a1 a2 a3 : Option Value} {o : Option Value} {x : Int32} {tl : List (Option Value)} (hd : decode k.2.1 pc = .ok (.istore 4, 2)) (hin : 4 < k.2.2.1) (hp : zc1 a3 = true) (kk : zV G sh k (pc + 2) (a0 :: a1 :: a2 :: a3 :: some (.int x) :: tl) st σ Post) : zV G sh k pc (a0 :: a1 :: a2 :: a3 :: o :: tl) (.int x :: st) σ Post := z_istoreW (i := 4) hd (by simp) hin (zpvS (o := a3) rfl hp) kk

theorem z_iinc_4 {a0 a1 a2 a3 : Option Value} {n a : Int} {tl : List (Option Value)} (hd : decode k.2.1 pc = .ok (.iinc 4 n, 3)) (hin : 4 < k.2.2.1) (hp : zc1 a3 = true) (kk : zV G sh k (pc + 3) (a0 :: a1 :: a2 :: a3 :: some (.int (zI (a + n))) :: tl) st σ Post) : zV G sh k pc (a0 :: a1 :: a2 :: a3 :: some (.int (zI a)) :: tl) st σ Post := z_iincN hd rfl hin (zpvS (o := a3) rfl hp) kk

theorem z_iincw_4 {a0 a1 a2 a3 : Option Value} {n a : Int} {tl : List (Option Value)} (hd : decode k.2.1 pc = .ok (.iinc 4 n, 6)) (hin : 4 < k.2.2.1) (hp : zc1 a3 = true) (kk : zV G sh k (pc + 6) (a0 :: a1 :: a2 :: a3 :: some (.int (zI (a + n))) :: tl) st σ Post) : zV G sh k pc (a0 :: a1 :: a2 :: a3 :: some (.int (zI a)) :: tl) st σ Post := z_iincW hd rfl hin (zpvS (o := a3) rfl hp) kk

theorem z_iload_5 {a0 a1 a2 a3 a4 : Option Value} {x : Int32} {tl : List (Option Value)} (hd : decode k.2.1 pc = .ok (.iload 5, 2)) (kk : zV G sh k (pc + 2) (a0 :: a1 :: a2 :: a3 :: a4 :: some (.int x) :: tl) (.int x :: st) σ Post) : zV G sh k pc (a0 :: a1 :: a2 :: a3 :: a4 :: some (.int x) :: tl) st σ Post := z_iloadW hd rfl kk

theorem z_aload_5 {a0 a1 a2 a3 a4 : Option Value} {x : Nat} {tl : List (Option Value)} (hd : decode k.2.1 pc = .ok (.aload 5, 2)) (kk : zV G sh k (pc + 2) (a0 :: a1 :: a2 :: a3 :: a4 :: some (.ref x) :: tl) (.ref x :: st) σ Post) : zV G sh k pc (a0 :: a1 :: a2 :: a3 :: a4 :: some (.ref x) :: tl) st σ Post := z_aloadW hd rfl kk

theorem z_istore_5 {a0 a1 a2 a3 a4 : Option Value} {o : Option Value} {x : Int32} {tl : List (Option Value)} (hd : decode k.2.1 pc = .ok (.istore 5, 2)) (hin : 5 < k.2.2.1) (hp : zc1 a4 = true) (kk : zV G sh k (pc + 2) (a0 :: a1 :: a2 :: a3 :: a4 :: some (.int x) :: tl) st σ Post) : zV G sh k pc (a0 :: a1 :: a2 :: a3 :: a4 :: o :: tl) (.int x :: st) σ Post := z_istoreW (i := 5) hd (by simp) hin (zpvS (o := a4) rfl hp) kk

theorem z_iinc_5 {a0 a1 a2 a3 a4 : Option Value} {n a : Int} {tl : List (Option Value)} (hd : decode k.2.1 pc = .ok (.iinc 5 n, 3)) (hin : 5 < k.2.2.1) (hp : zc1 a4 = true) (kk : zV G sh k (pc + 3) (a0 :: a1 :: a2 :: a3 :: a4 :: some (.int (zI (a + n))) :: tl) st σ Post) : zV G sh k pc (a0 :: a1 :: a2 :: a3 :: a4 :: some (.int (zI a)) :: tl) st σ Post := z_iincN hd rfl hin (zpvS (o := a4) rfl hp) kk

theorem z_iincw_5 {a0 a1 a2 a3 a4 : Option Value} {n a : Int} {tl : List (Option Value)} (hd : decode k.2.1 pc = .ok (.iinc 5 n, 6)) (hin : 5 < k.2.2.1) (hp : zc1 a4 = true) (kk : zV G sh k (pc + 6) (a0 :: a1 :: a2 :: a3 :: a4 :: some (.int (zI (a + n))) :: tl) st σ Post) : zV G sh k pc (a0 :: a1 :: a2 :: a3 :: a4 :: some (.int (zI a)) :: tl) st σ Post := z_iincW hd rfl hin (zpvS (o := a4) rfl hp) kk

theorem z_iload_6 {a0 a1 a2 a3 a4 a5 : Option Value} {x : Int32} {tl : List (Option Value)} (hd : decode k.2.1 pc = .ok (.iload 6, 2)) (kk : zV G sh k (pc + 2) (a0 :: a1 :: a2 :: a3 :: a4 :: a5 :: some (.int x) :: tl) (.int x :: st) σ Post) : zV G sh k pc (a0 :: a1 :: a2 :: a3 :: a4 :: a5 :: some (.int x) :: tl) st σ Post := z_iloadW hd rfl kk

theorem z_aload_6 {a0 a1 a2 a3 a4 a5 : Option Value} {x : Nat} {tl : List (Option Value)} (hd : decode k.2.1 pc = .ok (.aload 6, 2)) (kk : zV G sh k (pc + 2) (a0 :: a1 :: a2 :: a3 :: a4 :: a5 :: some (.ref x) :: tl) (.ref x :: st) σ Post) : zV G sh k pc (a0 :: a1 :: a2 :: a3 :: a4 :: a5 :: some (.ref x) :: tl) st σ Post := z_aloadW hd rfl kk

theorem z_istore_6 {a0 a1 a2 a3 a4 a5 : Option Value} {o : Option Value} {x : Int32} {tl : List (Option Value)} (hd : decode k.2.1 pc = .ok (.istore 6, 2)) (hin : 6 < k.2.2.1) (hp : zc1 a5 = true) (kk : zV G sh k (pc + 2) (a0 :: a1 :: a2 :: a3 :: a4 :: a5 :: some (.int x) :: tl) st σ Post) : zV G sh k pc (a0 :: a1 :: a2 :: a3 :: a4 :: a5 :: o :: tl) (.int x :: st) σ Post := z_istoreW (i := 6) hd (by simp) hin (zpvS (o := a5) rfl hp) kk

theorem z_iinc_6 {a0 a1 a2 a3 a4 a5 : Option Value} {n a : Int} {tl : List (Option Value)} (hd : decode k.2.1 pc = .ok (.iinc 6 n, 3)) (hin : 6 < k.2.2.1) (hp : zc1 a5 = true) (kk : zV G sh k (pc + 3) (a0 :: a1 :: a2 :: a3 :: a4 :: a5 :: some (.int (zI (a + n))) :: tl) st σ Post) : zV G sh k pc (a0 :: a1 :: a2 :: a3 :: a4 :: a5 :: some (.int (zI a)) :: tl) st σ Post := z_iincN hd rfl hin (zpvS (o := a5) rfl hp) kk

theorem z_iincw_6 {a0 a1 a2 a3 a4 a5 : Option Value} {n a : Int} {tl : List (Option Value)} (hd : decode k.2.1 pc = .ok (.iinc 6 n, 6)) (hin : 6 < k.2.2.1) (hp : zc1 a5 = true) (kk : zV G sh k (pc + 6) (a0 :: a1 :: a2 :: a3 :: a4 :: a5 :: some (.int (zI (a + n))) :: tl) st σ Post) : zV G sh k pc (a0 :: a1 :: a2 :: a3 :: a4 :: a5 :: some (.int (zI a)) :: tl) st σ Post := z_iincW hd rfl hin (zpvS (o := a5) rfl hp) kk

theorem z_iload_7 {a0 a1 a2 a3 a4 a5 a6 : Option Value} {x : Int32} {tl : List (Option Value)} (hd : decode k.2.1 pc = .ok (.iload 7, 2)) (kk : zV G sh k (pc + 2) (a0 :: a1 :: a2 :: a3 :: a4 :: a5 :: a6 :: some (.int x) :: tl) (.int x :: st) σ Post) : zV G sh k pc (a0 :: a1 :: a2 :: a3 :: a4 :: a5 :: a6 :: some (.int x) :: tl) st σ Post := z_iloadW hd rfl kk

theorem z_aload_7 {a0 a1 a2 a3 a4 a5 a6 : Option Value} {x : Nat} {tl : List (Option Value)} (hd : decode k.2.1 pc = .ok (.aload 7, 2)) (kk : zV G sh k (pc + 2) (a0 :: a1 :: a2 :: a3 :: a4 :: a5 :: a6 :: some (.ref x) :: tl) (.ref x :: st) σ Post) : zV G sh k pc (a0 :: a1 :: a2 :: a3 :: a4 :: a5 :: a6 :: some (.ref x) :: tl) st σ Post := z_aloadW hd rfl kk

theorem z_istore_7 {a0 a1 a2 a3 a4 a5 a6 : Option Value} {o : Option Value} {x : Int32} {tl : List (Option Value)} (hd : decode k.2.1 pc = .ok (.istore 7, 2)) (hin : 7 < k.2.2.1) (hp : zc1 a6 = true) (kk : zV G sh k (pc + 2) (a0 :: a1 :: a2 :: a3 :: a4 :: a5 :: a6 :: some (.int x) :: tl) st σ Post) : zV G sh k pc (a0 :: a1 :: a2 :: a3 :: a4 :: a5 :: a6 :: o :: tl) (.int x :: st) σ Post := z_istoreW (i := 7) hd (by simp) hin (zpvS (o := a6) rfl hp) kk

theorem z_iinc_7 {a0 a1 a2 a3 a4 a5 a6 : Option Value} {n a : Int} {tl : List (Option Value)} (hd : decode k.2.1 pc = .ok (.iinc 7 n, 3)) (hin : 7 < k.2.2.1) (hp : zc1 a6 = true) (kk : zV G sh k (pc + 3) (a0 :: a1 :: a2 :: a3 :: a4 :: a5 :: a6 :: some (.int (zI (a + n))) :: tl) st σ Post) : zV G sh k pc (a0 :: a1 :: a2 :: a3 :: a4 :: a5 :: a6 :: some (.int (zI a)) :: tl) st σ Post := z_iincN hd rfl hin (zpvS (o := a6) rfl hp) kk

theorem z_iincw_7 {a0 a1 a2 a3 a4 a5 a6 : Option Value} {n a : Int} {tl : List (Option Value)} (hd : decode k.2.1 pc = .ok (.iinc 7 n, 6)) (hin : 7 < k.2.2.1) (hp : zc1 a6 = true) (kk : zV G sh k (pc + 6) (a0 :: a1 :: a2 :: a3 :: a4 :: a5 :: a6 :: some (.int (zI (a + n))) :: tl) st σ Post) : zV G sh k pc (a0 :: a1 :: a2 :: a3 :: a4 :: a5 :: a6 :: some (.int (zI a)) :: tl) st σ Post := z_iincW hd rfl hin (zpvS (o := a6) rfl hp) kk

theorem z_iload_8 {a0 a1 a2 a3 a4 a5 a6 a7 : Option Value} {x : Int32} {tl : List (Option Value)} (hd : decode k.2.1 pc = .ok (.iload 8, 2)) (kk : zV G sh k (pc + 2) (a0 :: a1 :: a2 :: a3 :: a4 :: a5 :: a6 :: a7 :: some (.int x) :: tl) (.int x :: st) σ Post) : zV G sh k pc (a0 :: a1 :: a2 :: a3 :: a4 :: a5 :: a6 :: a7 :: some (.int x) :: tl) st σ Post := z_iloadW hd rfl kk

theorem z_aload_8 {a0 a1 a2 a3 a4 a5 a6 a7 : Option Value} {x : Nat} {tl : List (Option Value)} (hd : decode k.2.1 pc = .ok (.aload 8, 2)) (kk : zV G sh k (pc + 2) (a0 :: a1 :: a2 :: a3 :: a4 :: a5 :: a6 :: a7 :: some (.ref x) :: tl) (.ref x :: st) σ Post) : zV G sh k pc (a0 :: a1 :: a2 :: a3 :: a4 :: a5 :: a6 :: a7 :: some (.ref x) :: tl) st σ Post := z_aloadW hd rfl kk

theorem z_istore_8 {a0 a1 a2 a3 a4 a5 a6 a7 : Option Value} {o : Option Value} {x : Int32} {tl : List (Option Value)} (hd : decode k.2.1 pc = .ok (.istore 8, 2)) (hin : 8 < k.2.2.1) (hp : zc1 a7 = true) (kk : zV G sh k (pc + 2) (a0 :: a1 :: a2 :: a3 :: a4 :: a5 :: a6 :: a7 :: some (.int x) :: tl) st σ Post) : zV G sh k pc (a0 :: a1 :: a2 :: a3 :: a4 :: a5 :: a6 :: a7 :: o :: tl) (.int x :: st) σ Post := z_istoreW (i := 8) hd (by simp) hin (zpvS (o := a7) rfl hp) kk

theorem z_iinc_8 {a0 a1 a2 a3 a4 a5 a6 a7 : Option Value} {n a : Int} {tl : List (Option Value)} (hd : decode k.2.1 pc = .ok (.iinc 8 n, 3)) (hin : 8 < k.2.2.1) (hp : zc1 a7 = true) (kk : zV G sh k (pc + 3) (a0 :: a1 :: a2 :: a3 :: a4 :: a5 :: a6 :: a7 :: some (.int (zI (a + n))) :: tl) st σ Post) : zV G sh k pc (a0 :: a1 :: a2 :: a3 :: a4 :: a5 :: a6 :: a7 :: some (.int (zI a)) :: tl) st σ Post := z_iincN hd rfl hin (zpvS (o := a7) rfl hp) kk

theorem z_iincw_8 {a0 a1 a2 a3 a4 a5 a6 a7 : Option Value} {n a : Int} {tl : List (Option Value)} (hd : decode k.2.1 pc = .ok (.iinc 8 n, 6)) (hin : 8 < k.2.2.1) (hp : zc1 a7 = true) (kk : zV G sh k (pc + 6) (a0 :: a1 :: a2 :: a3 :: a4 :: a5 :: a6 :: a7 :: some (.int (zI (a + n))) :: tl) st σ Post) : zV G sh k pc (a0 :: a1 :: a2 :: a3 :: a4 :: a5 :: a6 :: a7 :: some (.int (zI a)) :: tl) st σ Post := z_iincW hd rfl hin (zpvS (o := a7) rfl hp) kk

def zFld (own : String) (idx ci j : Nat) : Prop := ∃ (C : String) (T : u_T) (N : Nat) (ref : String), vwCl[ci]? = some (C, T, N) ∧ (∀ w ∈ u_ws C T N, w ∈ wsL_law0) ∧ j < N ∧ Cond.fieldLink own idx ref (T j).2.1 (T j).2.2.1 ∈ wsL_law0 ∧ ref = (T j).1
def zPut (own : String) (idx ci j : Nat) (ty : FieldType) : Prop := ∃ (C : String) (T : u_T) (N : Nat) (ref : String) (tyf : Nat → FieldType), vwCl[ci]? = some (C, T, N) ∧ (∀ w ∈ u_ws C T N, w ∈ wsL_law0) ∧ j < N ∧ Cond.fieldLink own idx ref (T j).2.1 (T j).2.2.1 ∈ wsL_law0 ∧ ref = (T j).1 ∧ (∀ k, k < N → parseFieldDescriptor (T k).2.2.1 = some (tyf k)) ∧ (∀ a, a < N → ∀ b, b < N → a ≠ b → (T a).2.1 ≠ (T b).2.1) ∧ (T j).2.2.2 = false ∧ parseFieldDescriptor (T j).2.2.1 = some ty
theorem z_getG {i j idx ci : Nat} {ks : List (Option Nat)} {v : Value} (hd : decode k.2.1 pc = .ok (.getfield idx, 3)) (hf : zFld k.1.cls idx ci j) (hs : sh[i]? = some (.inl (ci, ks))) (hv : (zfs G σ i ks)[j]? = some v) (kk : zV G sh k (pc + 3) lv (v :: st) σ Post) : zV G sh k pc lv (.ref (zad G i) :: st) σ Post := by
  intro hR p e s m args below meth c H locs A ls C hP hS hl
  obtain ⟨Cn, Tf, Nf, ref, h1, h2, h3, h4, h5⟩ := hf
  exact va_get (D := zD G) (C := Cn) (T := Tf) (N := Nf) (ref := ref) C.1 C.2.1 C.2.2.2.2.2.1 (fun w hw => List.mem_cons_of_mem _ (h2 w hw)) C.2.2.2.2.2.2.1 C.2.2.2.2.2.2.2.1 hP i (zw_at hs) h1 j h3 (C.2.2.2.2.2.1 _ (List.mem_cons_of_mem _ h4)) (fun x hx => by rw [h5]; exact hx) hv hd (kk hR p e s m args below meth c H locs A ls C hP hS hl)
theorem z_getI {i j idx ci : Nat} {ks : List (Option Nat)} (hd : decode k.2.1 pc = .ok (.getfield idx, 3)) (hf : zFld k.1.cls idx ci j) (hs : sh[i]? = some (.inl (ci, ks))) (hv : ks[j]? = some none) (kk : zV G sh k (pc + 3) lv (.int (zI (σ.1 i j)) :: st) σ Post) : zV G sh k pc lv (.ref (zad G i) :: st) σ Post := z_getG hd hf hs (zfs_at hv) kk
theorem z_getR {i j idx ci r : Nat} {ks : List (Option Nat)} (hd : decode k.2.1 pc = .ok (.getfield idx, 3)) (hf : zFld k.1.cls idx ci j) (hs : sh[i]? = some (.inl (ci, ks))) (hv : ks[j]? = some (some r)) (kk : zV G sh k (pc + 3) lv (.ref (zad G r) :: st) σ Post) : zV G sh k pc lv (.ref (zad G i) :: st) σ Post := z_getG hd hf hs (zfs_at hv) kk
theorem z_putG {i j idx ci : Nat} {ks : List (Option Nat)} {ty : FieldType} {x : Int} (hd : decode k.2.1 pc = .ok (.putfield idx, 3)) (hf : zPut k.1.cls idx ci j ty) (hs : sh[i]? = some (.inl (ci, ks))) (hv : ks[j]? = some none) (hx : zR x) (hn : narrow ty (.int (zI x)) = .int (zI x)) (hft : fits ty (.int (zI x)) = true) (kk : zV G sh k (pc + 3) lv st (zsF σ i j x) Post) : zV G sh k pc lv (.int (zI x) :: .ref (zad G i) :: st) σ Post := by
  intro hR p e s m args below meth c H locs A ls C hP hS hl
  obtain ⟨Cn, Tf, Nf, ref, tyf, h1, h2, h3, h4, h5, h6, h7, h8, h9⟩ := hf
  have hlen : j < (zfs G σ i ks).length := by rw [zfs, List.length_mapIdx]; exact (List.getElem?_eq_some_iff.mp hv).1
  refine va_put (D := zD G) (C := Cn) (T := Tf) (N := Nf) (ref := ref) (ty := ty) C.1 C.2.1 C.2.2.2.2.2.1 (fun w hw => List.mem_cons_of_mem _ (h2 w hw)) tyf h6 h7 C.2.2.2.2.2.2.1 C.2.2.2.2.2.2.2.1 hP (C.2.2.2.2.2.2.2.2.1 σ) hS i (zw_at hs) h1 j h3 (C.2.2.2.2.2.1 _ (List.mem_cons_of_mem _ h4)) (fun x hx => by rw [h5]; exact hx) h8 h9 hn hft hlen hd (fun H1 locs1 hP1 _ hS1 => ?_)
  rw [zfs_set x hv, zw_set (G := G) (σ := σ) (σ' := zsF σ i j x) (c := .inr (ci, zfs G (zsF σ i j x) i ks)) hs rfl (fun a ha => ⟨by funext b; show (if a = i ∧ b = j then x else σ.1 a b) = σ.1 a b; rw [if_neg (fun q => ha q.1)], rfl⟩)] at hP1
  exact kk (hR.F hx) p e s m args below meth c H1 locs1 A ls C hP1 hS1 hl
theorem z_putI {i j idx ci : Nat} {ks : List (Option Nat)} {x : Int} (hd : decode k.2.1 pc = .ok (.putfield idx, 3)) (hf : zPut k.1.cls idx ci j .int) (hs : sh[i]? = some (.inl (ci, ks))) (hv : ks[j]? = some none) (hx : zR x) (kk : zV G sh k (pc + 3) lv st (zsF σ i j x) Post) : zV G sh k pc lv (.int (zI x) :: .ref (zad G i) :: st) σ Post := z_putG hd hf hs hv hx rfl rfl kk
theorem z_putZ {i j idx ci : Nat} {ks : List (Option Nat)} {x : Int} (hd : decode k.2.1 pc = .ok (.putfield idx, 3)) (hf : zPut k.1.cls idx ci j .boolean) (hs : sh[i]? = some (.inl (ci, ks))) (hv : ks[j]? = some none) (hx : x = 0 ∨ x = 1) (kk : zV G sh k (pc + 3) lv st (zsF σ i j x) Post) : zV G sh k pc lv (.int (zI x) :: .ref (zad G i) :: st) σ Post := by
  rcases hx with rfl | rfl
  · exact z_putG hd hf hs hv (by omega) (by decide +kernel) (by decide +kernel) kk
  · exact z_putG hd hf hs hv (by omega) (by decide +kernel) (by decide +kernel) kk

theorem zT0 (G : zG) : (zT G)[0]? = some (G.2.2.2.1, .int) := rfl
theorem zT1 (G : zG) : (zT G)[1]? = some (G.2.2.2.2.1, .boolean) := rfl
theorem zT2 (G : zG) : (zT G)[2]? = some (G.2.2.2.2.2.1, .object RX1) := rfl
theorem z_alenI {i n : Nat} (hd : decode k.2.1 pc = .ok (.arraylength, 1)) (hs : sh[i]? = some (.inr (.inl (0, n)))) (kk : zV G sh k (pc + 1) lv (.int (zI n) :: st) σ Post) : zV G sh k pc lv (.ref (zad G i) :: st) σ Post := by
  intro hR p e s m args below meth c H locs A ls C hP hS hl
  exact va_alen C.1 C.2.1 C.2.2.2.2.2.2.2.1 hP i 0 (zw_at hs) (zT0 G) rfl hd (kk hR p e s m args below meth c H locs A ls C hP hS hl)
theorem z_alenZ {i n : Nat} (hd : decode k.2.1 pc = .ok (.arraylength, 1)) (hs : sh[i]? = some (.inr (.inl (1, n)))) (kk : zV G sh k (pc + 1) lv (.int (zI n) :: st) σ Post) : zV G sh k pc lv (.ref (zad G i) :: st) σ Post := by
  intro hR p e s m args below meth c H locs A ls C hP hS hl
  exact va_alen C.1 C.2.1 C.2.2.2.2.2.2.2.1 hP i 1 (zw_at hs) (zT1 G) rfl hd (kk hR p e s m args below meth c H locs A ls C hP hS hl)
theorem z_alenR {i : Nat} {rs : List Nat} (hd : decode k.2.1 pc = .ok (.arraylength, 1)) (hs : sh[i]? = some (.inr (.inr rs))) (kk : zV G sh k (pc + 1) lv (.int (zI rs.length) :: st) σ Post) : zV G sh k pc lv (.ref (zad G i) :: st) σ Post := by
  intro hR p e s m args below meth c H locs A ls C hP hS hl
  exact va_alen C.1 C.2.1 C.2.2.2.2.2.2.2.1 hP i 2 (zw_at hs) (zT2 G) rfl hd (kk hR p e s m args below meth c H locs A ls C hP hS hl)
theorem z_iald {i n : Nat} {z : Int} (hd : decode k.2.1 pc = .ok (.iaload, 1)) (hs : sh[i]? = some (.inr (.inl (0, n)))) (hn : n < 2147483648) (h0 : 0 ≤ z) (h1 : z < n) (kk : zV G sh k (pc + 1) lv (.int (zI (σ.2 i z)) :: st) σ Post) : zV G sh k pc lv (.int (zI z) :: .ref (zad G i) :: st) σ Post := by
  intro hR p e s m args below meth c H locs A ls C hP hS hl
  refine va_iald C.1 C.2.1 C.2.2.2.2.2.2.2.1 hP i 0 (zw_at hs) (zT0 G) (zI_in h0 h1 hn) hd ?_
  have e1 : (((zI z).toNatClampNeg : Nat) : Int) = z := by rw [zI_cl h0 (by omega)]; omega
  show W _ _ _ _ _ _ _ _ _ _ _ _ _ _ _ (F0 m (pc + 1) ls (.int (zI (σ.2 i (((zI z).toNatClampNeg : Nat) : Int))) :: st))
  rw [e1]
  exact kk hR p e s m args below meth c H locs A ls C hP hS hl
theorem z_zald {i n : Nat} {z : Int} (hd : decode k.2.1 pc = .ok (.baload, 1)) (hs : sh[i]? = some (.inr (.inl (1, n)))) (hn : n < 2147483648) (h0 : 0 ≤ z) (h1 : z < n) (kk : zV G sh k (pc + 1) lv (.int (zI (σ.2 i z)) :: st) σ Post) : zV G sh k pc lv (.int (zI z) :: .ref (zad G i) :: st) σ Post := by
  intro hR p e s m args below meth c H locs A ls C hP hS hl
  refine va_zald C.1 C.2.1 C.2.2.2.2.2.2.2.1 hP i 1 (zw_at hs) (zT1 G) (zI_in h0 h1 hn) hd ?_
  have e1 : (((zI z).toNatClampNeg : Nat) : Int) = z := by rw [zI_cl h0 (by omega)]; omega
  show W _ _ _ _ _ _ _ _ _ _ _ _ _ _ _ (F0 m (pc + 1) ls (.int (zI (σ.2 i (((zI z).toNatClampNeg : Nat) : Int))) :: st))
  rw [e1]
  exact kk hR p e s m args below meth c H locs A ls C hP hS hl
theorem zupd {i : Nat} {z x : Int} (h0 : 0 ≤ z) (h1 : z < 2147483648) : upd (fun q : Nat => zI (σ.2 i q)) (zI z).toNatClampNeg (zI x) = fun q : Nat => zI ((zsA σ i z x).2 i q) := by
  funext q
  show (if q = (zI z).toNatClampNeg then zI x else zI (σ.2 i q)) = zI (if i = i ∧ (q : Int) = z then x else σ.2 i q)
  rw [zI_cl h0 h1]
  by_cases hq : (q : Int) = z
  · rw [if_pos (by omega), if_pos ⟨rfl, hq⟩]
  · rw [if_neg (by omega), if_neg (fun h => hq h.2)]
theorem zsA_ne {i : Nat} {z x : Int} (a : Nat) (ha : a ≠ i) : (zsA σ i z x).1 a = σ.1 a ∧ (zsA σ i z x).2 a = σ.2 a := ⟨rfl, by funext b; show (if a = i ∧ b = z then x else σ.2 a b) = σ.2 a b; rw [if_neg (fun q => ha q.1)]⟩
theorem z_iast {i n : Nat} {z x : Int} (hd : decode k.2.1 pc = .ok (.iastore, 1)) (hs : sh[i]? = some (.inr (.inl (0, n)))) (hn : n < 2147483648) (h0 : 0 ≤ z) (h1 : z < n) (hx : zR x) (kk : zV G sh k (pc + 1) lv st (zsA σ i z x) Post) : zV G sh k pc lv (.int (zI x) :: .int (zI z) :: .ref (zad G i) :: st) σ Post := by
  intro hR p e s m args below meth c H locs A ls C hP hS hl
  refine va_iast C.1 C.2.1 C.2.2.2.2.2.2.2.1 hP (C.2.2.2.2.2.2.2.2.1 σ) hS i 0 (zw_at hs) (zT0 G) (zI_in h0 h1 hn) hd (fun H1 locs1 hP1 _ hS1 => ?_)
  rw [zupd h0 (by omega), zw_set (G := G) (σ := σ) (σ' := zsA σ i z x) (c := .inl (G.2.2.2.1, n, .inl fun q : Nat => zI ((zsA σ i z x).2 i q))) hs rfl zsA_ne] at hP1
  exact kk (hR.A hx) p e s m args below meth c H1 locs1 A ls C hP1 hS1 hl
theorem z_zast {i n : Nat} {z x : Int} (hd : decode k.2.1 pc = .ok (.bastore, 1)) (hs : sh[i]? = some (.inr (.inl (1, n)))) (hn : n < 2147483648) (h0 : 0 ≤ z) (h1 : z < n) (hx : x = 0 ∨ x = 1) (kk : zV G sh k (pc + 1) lv st (zsA σ i z x) Post) : zV G sh k pc lv (.int (zI x) :: .int (zI z) :: .ref (zad G i) :: st) σ Post := by
  intro hR p e s m args below meth c H locs A ls C hP hS hl
  refine va_zast C.1 C.2.1 C.2.2.2.2.2.2.2.1 hP (C.2.2.2.2.2.2.2.2.1 σ) hS i 1 (zw_at hs) (zT1 G) (zI_in h0 h1 hn) hd (fun H1 locs1 hP1 _ hS1 => ?_)
  have hnar : vp_nar .boolean (zI x) = zI x := by rcases hx with rfl | rfl <;> decide +kernel
  rw [hnar, zupd h0 (by omega), zw_set (G := G) (σ := σ) (σ' := zsA σ i z x) (c := .inl (G.2.2.2.2.1, n, .inl fun q : Nat => zI ((zsA σ i z x).2 i q))) hs rfl zsA_ne] at hP1
  exact kk (hR.A (by rcases hx with rfl | rfl <;> omega)) p e s m args below meth c H1 locs1 A ls C hP1 hS1 hl
theorem z_aald {i : Nat} {rs : List Nat} {z : Int} {r : Nat} (hd : decode k.2.1 pc = .ok (.aaload, 1)) (hs : sh[i]? = some (.inr (.inr rs))) (hn : rs.length < 2147483648) (h0 : 0 ≤ z) (hr : rs[z.toNat]? = some r) (kk : zV G sh k (pc + 1) lv (.ref (zad G r) :: st) σ Post) : zV G sh k pc lv (.int (zI z) :: .ref (zad G i) :: st) σ Post := by
  intro hR p e s m args below meth c H locs A ls C hP hS hl
  have hz : z.toNat < rs.length := (List.getElem?_eq_some_iff.mp hr).1
  refine va_aldq C.1 C.2.1 C.2.2.2.2.2.2.2.1 hP i 2 (zw_at hs) (zT2 G) (zI_in h0 (by omega) hn) hd ?_
  have e1 : (rs[(zI z).toNatClampNeg]?).map (zad G) = some (zad G r) := by rw [zI_cl h0 (by omega), hr]; rfl
  show W _ _ _ _ _ _ _ _ _ _ _ _ _ _ _ (F0 m (pc + 1) ls (va_rf ((rs[(zI z).toNatClampNeg]?).map (zad G)) :: st))
  rw [e1]
  exact kk hR p e s m args below meth c H locs A ls C hP hS hl
theorem z_copy {i0 i1 n0 n1 idx : Nat} {sp dp n : Int} (hd : decode k.2.1 pc = .ok (.invokestatic idx, 3)) (hml : Cond.methodLink k.1.cls idx arraycopyName ∈ wsL_law0) (hna : Cond.native arraycopyName ∈ wsL_law0) (hst : Cond.static arraycopyName ∈ wsL_law0) (hin : Cond.initialized "java/lang/System" ∈ wsL_law0)
    (hs0 : sh[i0]? = some (.inr (.inl (0, n0)))) (hs1 : sh[i1]? = some (.inr (.inl (0, n1)))) (hn0 : n0 < 2147483648) (hn1 : n1 < 2147483648) (h1 : 0 ≤ sp) (h2 : 0 ≤ dp) (h3 : 0 ≤ n) (h4 : sp + n ≤ n0) (h5 : dp + n ≤ n1) (hrm : 1 ≤ k.2.2.2.2.1 ∧ 8 + (nativeFrameWords "java/lang/System" "arraycopy" 5 + 11) ≤ k.2.2.2.2.2.1) (hcat : (st.map fun v => v.category).sum ≤ 8)
    (kk : zV G sh k (pc + 3) lv st (zsC σ i0 sp i1 dp n) Post) : zV G sh k pc lv (.int (zI n) :: .int (zI dp) :: .ref (zad G i1) :: .int (zI sp) :: .ref (zad G i0) :: st) σ Post := by
  intro hR p e s m args below meth c H locs A ls C hP hS hl
  have hts := fun w h => C.2.2.2.2.2.1 w (List.mem_cons_of_mem _ h)
  have hlt : ∀ a : Int, 0 ≤ a → a < 2147483648 → ¬ zI a < 0 := fun a h0 h1 h => by rw [zI_lt0 (by omega)] at h; omega
  refine va_copyi C.1 C.2.1 (C.2.2.2.2.1.trans hl.1.symm) C.2.2.2.2.2.2.1 (hts _ hml) (hts _ hna) (hts _ hst) (hts _ hin) C.2.2.2.2.2.2.2.1 hP (C.2.2.2.2.2.2.2.2.1 σ) hS i0 i1 0 0 (zw_at hs0) (zw_at hs1) (zT0 G) (zT0 G) rfl (hlt sp h1 (by omega)) (hlt dp h2 (by omega)) (hlt n h3 (by omega)) (by rw [zI_cl h1 (by omega), zI_cl h3 (by omega)]; omega) (by rw [zI_cl h2 (by omega), zI_cl h3 (by omega)]; omega) (fun _ _ => rfl) hrm.1 (Nat.le_trans (Nat.add_le_add_right hcat _) hrm.2) hd (fun H1 locs1 hP1 _ hS1 => ?_)
  have e1 : va_cpy (fun q : Nat => zI (σ.2 i0 q)) (fun q : Nat => zI (σ.2 i1 q)) (zI sp).toNatClampNeg (zI dp).toNatClampNeg (zI n).toNatClampNeg = fun q : Nat => zI ((zsC σ i0 sp i1 dp n).2 i1 q) := by
    funext q
    show (if (zI dp).toNatClampNeg ≤ q ∧ q < (zI dp).toNatClampNeg + (zI n).toNatClampNeg then zI (σ.2 i0 (((zI sp).toNatClampNeg + (q - (zI dp).toNatClampNeg) : Nat) : Int)) else zI (σ.2 i1 q)) = zI (if i1 = i1 ∧ dp ≤ (q : Int) ∧ (q : Int) < dp + n then σ.2 i0 (sp + (q - dp)) else σ.2 i1 q)
    rw [zI_cl h1 (by omega), zI_cl h2 (by omega), zI_cl h3 (by omega)]
    by_cases hq : dp ≤ (q : Int) ∧ (q : Int) < dp + n
    · rw [if_pos (by omega), if_pos ⟨rfl, hq⟩]
      have : ((sp.toNat + (q - dp.toNat) : Nat) : Int) = sp + (q - dp) := by omega
      rw [this]
    · rw [if_neg (by omega), if_neg (fun h => hq h.2)]
  rw [e1, zw_set (G := G) (σ := σ) (σ' := zsC σ i0 sp i1 dp n) (c := .inl (G.2.2.2.1, n1, .inl fun q : Nat => zI ((zsC σ i0 sp i1 dp n).2 i1 q))) hs1 rfl (fun a ha => ⟨rfl, by funext b; show (if a = i1 ∧ dp ≤ b ∧ b < dp + n then σ.2 i0 (sp + (b - dp)) else σ.2 a b) = σ.2 a b; rw [if_neg (fun q => ha q.1)]⟩)] at hP1
  exact kk hR.C p e s m args below meth c H1 locs1 A ls C hP1 hS1 hl

theorem z_iret {a : Int} (hd : decode k.2.1 pc = .ok (.ireturn, 1)) (hr : k.2.2.2.1 = some .int) (h : Post (some (.int (zI a))) σ) : zV G sh k pc lv [.int (zI a)] σ Post := by
  intro hR p e s m args below meth c H locs A ls C hP hS hl
  have hlocks := C.2.2.2.1
  exact W.iret C.1 C.2.1 (C.2.2.1.trans hr) (fun t ht hW => ⟨⟨_, σ, rfl, hR, h, by rw [ht]; exact hP⟩, hS.F ht⟩) hS.2.2 hd
theorem z_zret {a : Int} (hd : decode k.2.1 pc = .ok (.ireturn, 1)) (hr : k.2.2.2.1 = some .boolean) (ha : a = 0 ∨ a = 1) (h : Post (some (.int (zI a))) σ) : zV G sh k pc lv [.int (zI a)] σ Post := by
  intro hR p e s m args below meth c H locs A ls C hP hS hl
  have hlocks := C.2.2.2.1
  exact W.zret C.1 C.2.1 (C.2.2.1.trans hr) (by rcases ha with rfl | rfl <;> decide +kernel) (fun t ht hW => ⟨⟨_, σ, rfl, hR, h, by rw [ht]; exact hP⟩, hS.F ht⟩) hS.2.2 hd
theorem z_vret (hd : decode k.2.1 pc = .ok (.return_, 1)) (hr : k.2.2.2.1 = none) (h : Post none σ) : zV G sh k pc lv [] σ Post := by
  intro hR p e s m args below meth c H locs A ls C hP hS hl
  have hlocks := C.2.2.2.1
  exact W.vret C.1 C.2.1 (C.2.2.1.trans hr) (fun t ht hW => ⟨⟨_, σ, rfl, hR, h, by rw [ht]; exact hP⟩, hS.F ht⟩) hS.2.2 hd
theorem z_aret {v : Value} {rt : String} (hd : decode k.2.1 pc = .ok (.areturn, 1)) (hr : k.2.2.2.1 = some (.object rt)) (hv : v = .null ∨ ∃ a, v = .ref a) (h : Post (some v) σ) : zV G sh k pc lv [v] σ Post := by
  intro hR p e s m args below meth c H locs A ls C hP hS hl
  have hlocks := C.2.2.2.1
  exact W.aret C.1 C.2.1 (C.2.2.1.trans hr) (Or.inl ⟨_, rfl⟩) hv (fun t ht hW => ⟨⟨_, σ, rfl, hR, h, by rw [ht]; exact hP⟩, hS.F ht⟩) hS.2.2 hd

end zRows

def zexp : List Value → List (Option Value)
  | [] => []
  | v :: vs => if v.category = 2 then some v :: none :: zexp vs else some v :: zexp vs
def zini (n : Nat) (vs : List Value) : List (Option Value) := zexp vs ++ List.replicate (n - (zexp vs).length) none
theorem zlv_nones : ∀ (n i : Nat), zlv i (List.replicate n none) = []
  | 0, _ => rfl
  | n + 1, i => by rw [List.replicate_succ, zlv]; exact zlv_nones n (i + 1)
theorem zlv_exp (r : List (Option Value)) (hr : ∀ i, zlv i r = []) : ∀ (vs : List Value) (i : Nat), zlv i (zexp vs ++ r) = lv_args i vs
  | [], i => hr i
  | v :: vs, i => by
    rw [zexp, lv_args]
    by_cases h : v.category = 2
    · rw [if_pos h, if_pos h]
      show (i, v) :: zlv (i + 1 + 1) (zexp vs ++ r) = _
      rw [zlv_exp r hr vs]
    · rw [if_neg h, if_neg h]
      show (i, v) :: zlv (i + 1) (zexp vs ++ r) = _
      rw [zlv_exp r hr vs]
theorem zlv_ini (n : Nat) (vs : List Value) : zlv 0 (zini n vs) = lv_args 0 vs := zlv_exp _ (fun i => zlv_nones _ i) vs 0
theorem zw_adr {G : zG} {sh : List zSh} {σ σ' : zSt} {i : Nat} {q : Nat × va_E} (h : (zw G sh σ')[i]? = some q) : ∃ e, (zw G sh σ)[i]? = some (q.1, e) := by
  rw [zw, List.getElem?_mapIdx] at h ⊢
  cases hs : sh[i]? with
  | none => rw [hs] at h; cases h
  | some s => rw [hs] at h; cases h; exact ⟨_, rfl⟩
def zgw : List Cond := wsL_law0
theorem z_good : wsL_law0.all goodWord = true := by decide +kernel
theorem z_goodw {w : Cond} (h : w ∈ wsL_law0) : (w.onTables && w.keeps) = true ∨ ∃ ty, w = .arrayClass ty := good_of_word (List.all_eq_true.mp z_good w h)
def zcal (j : zM) (n : Nat) : Prop := (Cond.initialized j.1.cls ∈ wsL_law0 ∧ Cond.code j.1 j.2.1 j.2.2.1 j.2.2.2.1 ∈ wsL_law0) ∧ (j.1.cls ≠ "java/lang/invoke/MethodHandle" ∧ j.1.cls ≠ "java/lang/invoke/VarHandle" ∧ (parseMethodDescriptor j.1.desc).map (fun d => d.parameters.length) = some n) ∧ plainName j.1.cls = true ∧ j.2.2.2.2.2.2 = (0, 0)
def zcalV (j : zM) (C : String) (n : Nat) : Prop := zcal j n ∧ Cond.instanceMethod j.1 ∈ wsL_law0 ∧ Cond.selects C j.1 j.1 ∈ wsL_law0
def zcalS (j : zM) (n : Nat) : Prop := zcal j n ∧ Cond.static j.1 ∈ wsL_law0
def zpc (G : zG) (sh : List zSh) (σ : zSt) (sz : Nat) (as : List Value) : Array Value → State → Prop := va_Pc as (fun U => U.heap.size = sz ∧ va_P (zD G) vwCl (zw G sh σ) U.heap ∧ va_K (zD G) vwCl (zT G) U ∧ ∀ σ, va_D (fun _ => True) (zw G sh σ))
theorem z_met (j : zM) {G : zG} {sh : List zSh} {as : List Value} {σ : zSt} {Post : Option Value → zSt → Prop} (sz : Nat) (hy : plainName j.1.cls = true) (h0 : j.2.2.2.2.2.2 = (0, 0)) (hlen : (lg_sl as).length ≤ j.2.2.1) (hV : zV G sh j 0 (zini j.2.2.1 as) [] σ Post) (hR : zRg σ) :
    Met G.1 j.1 (zws j) (zrm j) (zpc G sh σ sz as) (zQ G sh Post (va_A (zw G sh σ) sz)) 0 0 (va_A (zw G sh σ) sz) := by
  obtain ⟨jy, jb, jm, jr, jf, jl, jc⟩ := j
  cases h0
  refine Met.ofW (cc := jb) (maxL := jm) (ret := jr) hy rfl ?_
  intro p e s m args below meth c s₁ B hml hv
  obtain ⟨rfl, hsz, hP, hK, hD0⟩ := hv
  have hl := lv_entry as (n := jm) hlen
  rw [lg_entry_eq]
  refine hV hR p e s m _ below meth c s.heap [] (va_A (zw G sh σ) sz) _ ⟨B.exec, B.bytes, B.returns, B.notSynchronized, hml, atoms_spec (ws := zws (jy, jb, jm, jr, jf, jl, 0, 0)) B.pre, findClass_of_methodNamed B.named, hK, fun σ' => ⟨(hD0 σ').1, fun i q hq => ?_⟩, fun q hq => Or.inr (by rw [← hsz]; exact hq)⟩ hP va_S.rf ?_
  · obtain ⟨e, he⟩ := zw_adr (σ := σ) hq
    exact Or.inl ⟨i, e, he⟩
  · rw [zlv_ini]; exact hl
theorem zpc_blind {G : zG} {sh : List zSh} {σ : zSt} {sz : Nat} {as : List Value} : FrameBlind (zpc G sh σ sz as) := fun a U g mk q => by
  obtain ⟨q0, q1, qP, qK, qD⟩ := q
  exact ⟨q0, q1, qP, va_K.moved (u := U) (U := U.calling g mk a) (Vm.Alike.refl U.vm) qK, qD⟩
section zCalls
variable {G : zG} {sh : List zSh} {k : zM} {pc : Nat} {lv : List (Option Value)} {st : List Value} {σ : zSt} {Post : Option Value → zSt → Prop}
theorem z_run {p : Program} {e : Env} {s : State} {m : MethodId} {args : Array Value} {below : List Frame} {meth : Method} {c : Code} {H : Heap} {locs : List Loc} {A : Nat → Prop} {ls : Array Slot} {st0 : List Value} {a : Array Value} (C : zC G sh k p s m args meth c A) (hS : va_S A s.heap H locs) (hl : lv_has ls k.2.2.1 (zlv 0 lv))
    (hr : va_Run p G.1 e (zrm k) s m args below meth c H locs k.2.2.2.2.2.2.1 k.2.2.2.2.2.2.2 0 0 (F0 m pc ls st0) st (zQ G sh (fun v σ' => zV G sh k (pc + 3) lv (v.toList ++ st) σ' Post) (va_A (zw G sh σ) H.size) a) (va_A (zw G sh σ) H.size)) :
    W p G.1 e (zrm k) s m args below meth c H locs k.2.2.2.2.2.2.1 k.2.2.2.2.2.2.2 (MQ below (zQ G sh Post A) args s k.2.2.2.2.2.2.1 k.2.2.2.2.2.2.2 A) (F0 m pc ls st0) := by
  intro T hT X
  obtain ⟨v, st₀, t, T', L, h0, X', hL, e1, e2, ⟨⟨v', σ', hv, hR', hp, hP'⟩, hz, hk⟩, stp⟩ := hr T hT X
  cases hv
  have hA : ∀ q, va_A (zw G sh σ) H.size q → A q := by
    rintro q (⟨i, e, he⟩ | h)
    · exact (C.2.2.2.2.2.2.2.2.1 σ).2 i (q, e) he
    · exact C.2.2.2.2.2.2.2.2.2 q (Nat.le_trans hS.1 h)
  rw [h0] at hz hk
  obtain ⟨t2, a1, b1⟩ := hp hR' p e s m args below meth c T'.heap (locs ++ L) A ls C (by rw [e1]; exact hP')
    ⟨Nat.le_trans hS.1 (by rw [e1]; exact hz), fun q h1 h2 => by rw [e1, hk q (Nat.lt_of_lt_of_le h1 hS.1) (fun z => h2 (hA q z))]; exact hS.2.1 q h1 h2, fun q hq => by
      rcases List.mem_append.mp hq with h | h
      · exact hS.2.2 q h
      · exact hA _ (hL q h)⟩ hl T' rfl X'
  exact ⟨t2, stp t2 a1, b1⟩
theorem z_callV {C : String} {T : u_T} {N idx i ci : Nat} {ks : List (Option Nat)} (j : zM) (As : List Value) (hd : decode k.2.1 pc = .ok (.invokevirtual idx, 3)) (hj : zcalV j C As.length) (hml : Cond.methodLink k.1.cls idx j.1 ∈ wsL_law0) (hrm : j.2.2.2.2.1 + 1 ≤ k.2.2.2.2.1 ∧ 8 + (j.2.2.1 + 11) + j.2.2.2.2.2.1 ≤ k.2.2.2.2.2.1) (hs : sh[i]? = some (.inl (ci, ks))) (hc : vwCl[ci]? = some (C, T, N)) (hlen : (lg_sl (.ref (zad G i) :: As)).length ≤ j.2.2.1) (hcat : (st.map fun v => v.category).sum ≤ 8)
    (kk : zV G sh j 0 (zini j.2.2.1 (.ref (zad G i) :: As)) [] σ (fun v σ' => zV G sh k (pc + 3) lv (v.toList ++ st) σ' Post)) : zV G sh k pc lv (As.reverse ++ .ref (zad G i) :: st) σ Post := by
  intro hR p e s m args below meth c H locs A ls C hP hS hl
  obtain ⟨⟨⟨g1, g2⟩, g3, g4, g5⟩, g6, g7⟩ := hj
  have hts := fun w h => C.2.2.2.2.2.1 w (List.mem_cons_of_mem _ h)
  have hM := z_met j H.size g4 g5 hlen kk hR
  have hgood : GoodIn (zws k) (zws j) := fun w hw => by
    have hw' : w ∈ wsL_law0 := by
      rcases List.mem_cons.mp hw with rfl | h
      · exact g2
      · exact h
    exact ⟨List.mem_cons_of_mem _ hw', z_goodw hw'⟩
  have cb := callB_of (own := k.1.cls) (index := idx) (R := zrm k) (rm := zrm j) (mc := 0) (ms := 0) As.length C.2.2.2.2.2.1 hgood rfl (by show j.2.2.2.2.2.2.1 = 0; rw [g5]) (by show j.2.2.2.2.2.2.2 = 0; rw [g5]) (hts _ g1) (hts _ hml) g3 hrm
  refine z_run C hS hl (va_runV (As := As) (rest := st) (own := k.1.cls) ⟨C.1, C.2.1, C.2.2.2.2.1, C.2.2.2.2.2.2.1, C.2.2.2.2.2.1⟩ hM ⟨cb, hts _ g6, hts _ g7⟩ ⟨zpc_blind, va_recv C.2.2.2.2.2.2.2.1 hP hc (zw_at hs), fun U hU hW => ⟨rfl, by rw [hU], by rw [hU]; exact hP, va_K.moved hW.alike C.2.2.2.2.2.2.2.1, fun σ => (C.2.2.2.2.2.2.2.2.1 σ).weaken (fun _ _ _ _ => trivial)⟩⟩ rfl rfl hl.1 rfl (lv_room hcat) hd ⟨?_, ?_⟩)
  · exact Nat.le_refl _
  · exact Nat.le_refl _
theorem z_callS {idx : Nat} (j : zM) (As : List Value) (hd : decode k.2.1 pc = .ok (.invokestatic idx, 3)) (hj : zcalS j As.length) (hml : Cond.methodLink k.1.cls idx j.1 ∈ wsL_law0) (hrm : j.2.2.2.2.1 + 1 ≤ k.2.2.2.2.1 ∧ 8 + (j.2.2.1 + 11) + j.2.2.2.2.2.1 ≤ k.2.2.2.2.2.1) (hlen : (lg_sl As).length ≤ j.2.2.1) (hcat : (st.map fun v => v.category).sum ≤ 8)
    (kk : zV G sh j 0 (zini j.2.2.1 As) [] σ (fun v σ' => zV G sh k (pc + 3) lv (v.toList ++ st) σ' Post)) : zV G sh k pc lv (As.reverse ++ st) σ Post := by
  intro hR p e s m args below meth c H locs A ls C hP hS hl
  obtain ⟨⟨⟨g1, g2⟩, g3, g4, g5⟩, g6⟩ := hj
  have hts := fun w h => C.2.2.2.2.2.1 w (List.mem_cons_of_mem _ h)
  have hM := z_met j H.size g4 g5 hlen kk hR
  have hgood : GoodIn (zws k) (zws j) := fun w hw => by
    have hw' : w ∈ wsL_law0 := by
      rcases List.mem_cons.mp hw with rfl | h
      · exact g2
      · exact h
    exact ⟨List.mem_cons_of_mem _ hw', z_goodw hw'⟩
  have cb := callB_of (own := k.1.cls) (index := idx) (R := zrm k) (rm := zrm j) (mc := 0) (ms := 0) As.length C.2.2.2.2.2.1 hgood rfl (by show j.2.2.2.2.2.2.1 = 0; rw [g5]) (by show j.2.2.2.2.2.2.2 = 0; rw [g5]) (hts _ g1) (hts _ hml) g3 hrm
  exact z_run C hS hl (va_runS (As := As) (rest := st) (own := k.1.cls) ⟨C.1, C.2.1, C.2.2.2.2.1, C.2.2.2.2.2.2.1, C.2.2.2.2.2.1⟩ hM ⟨cb, hts _ g6⟩ ⟨zpc_blind, fun U hU hW => ⟨rfl, by rw [hU], by rw [hU]; exact hP, va_K.moved hW.alike C.2.2.2.2.2.2.2.1, fun σ => (C.2.2.2.2.2.2.2.2.1 σ).weaken (fun _ _ _ _ => trivial)⟩⟩ rfl rfl hl.1 rfl (lv_room hcat) hd ⟨Nat.le_refl _, Nat.le_refl _⟩)
end zCalls
end
section
/-! the two worlds: the class and its parts, the reference -/
def shC : List zSh := [.inl (8, [some 1, some 2, some 3, some 4, some 5, some 6, some 7, none, none, none]), .inl (2, [some 8, some 9, none]), .inr (.inl (1, 256)), .inl (4, [some 10, some 11, some 12, none]), .inr (.inr [18, 19, 20, 21, 22, 23]), .inl (5, [some 13, some 14, some 15, none, none]), .inl (7, [some 16, none]), .inl (6, [some 17, none]), .inr (.inl (0, 256)), .inr (.inl (0, 5120)), .inr (.inl (0, 8)), .inr (.inl (0, 240)), .inr (.inl (0, 28800)), .inr (.inl (0, 6000)), .inr (.inl (0, 150)), .inr (.inl (0, 40)), .inr (.inl (0, 3600)), .inr (.inl (0, 300)), .inl (3, [some 24, none, none, none, none, none, none, none, none, none]), .inl (3, [some 25, none, none, none, none, none, none, none, none, none]), .inl (3, [some 26, none, none, none, none, none, none, none, none, none]), .inl (3, [some 27, none, none, none, none, none, none, none, none, none]), .inl (3, [some 28, none, none, none, none, none, none, none, none, none]), .inl (3, [some 29, none, none, none, none, none, none, none, none, none]), .inr (.inl (0, 121)), .inr (.inl (0, 121)), .inr (.inl (0, 121)), .inr (.inl (0, 121)), .inr (.inl (0, 121)), .inr (.inl (0, 121))]
def shM : List zSh := [.inl (9, [none, some 1, some 2, none, some 3, none, none, some 4, some 5, some 6, none, some 7, some 8, some 9, some 10, some 11, some 12, some 13, none, none, some 14, none, some 15, some 16, none, some 17, none, none, some 18, none]), .inr (.inl (0, 256)), .inr (.inl (0, 5120)), .inr (.inl (1, 256)), .inr (.inl (0, 8)), .inr (.inl (0, 240)), .inr (.inl (0, 28800)), .inr (.inl (0, 6)), .inr (.inl (0, 6)), .inr (.inl (0, 768)), .inr (.inl (0, 6)), .inr (.inl (0, 6)), .inr (.inl (0, 6)), .inr (.inl (1, 6)), .inr (.inl (0, 3600)), .inr (.inl (0, 6000)), .inr (.inl (0, 150)), .inr (.inl (0, 300)), .inr (.inl (0, 40))]
theorem shC_lv {t : Nat} (h : t < 6) : shC[18 + t]? = some (.inl (3, [some (24 + t), none, none, none, none, none, none, none, none, none])) := by
  rcases (show t = 0 ∨ t = 1 ∨ t = 2 ∨ t = 3 ∨ t = 4 ∨ t = 5 by omega) with rfl | rfl | rfl | rfl | rfl | rfl <;> rfl
theorem shC_la {t : Nat} (h : t < 6) : shC[24 + t]? = some (.inr (.inl (0, 121))) := by
  rcases (show t = 0 ∨ t = 1 ∨ t = 2 ∨ t = 3 ∨ t = 4 ∨ t = 5 by omega) with rfl | rfl | rfl | rfl | rfl | rfl <;> rfl
theorem shC_lr {t : Nat} {z : Int} (h : t < 6) (hz : z = (t : Int)) : ([18, 19, 20, 21, 22, 23] : List Nat)[z.toNat]? = some (18 + t) := by
  subst hz
  rcases (show t = 0 ∨ t = 1 ∨ t = 2 ∨ t = 3 ∨ t = 4 ∨ t = 5 by omega) with rfl | rfl | rfl | rfl | rfl | rfl <;> rfl
abbrev mX0_isLatinLetter : zM := (yX0_isLatinLetter, cX0_isLatinLetter, 1, (some .boolean), 0, 0, 0, 0)
abbrev mX6_category : zM := (yX6_category, cX6_category, 4, (some .int), 2, 45, 0, 0)
abbrev mX6_isSign : zM := (yX6_isSign, cX6_isSign, 1, (some .boolean), 0, 0, 0, 0)
abbrev mX0_setEverywhere : zM := (yX0_setEverywhere, cX0_setEverywhere, 4, none, 1, 22, 0, 0)
abbrev mX0_setHere : zM := (yX0_setHere, cX0_setHere, 3, none, 0, 0, 0, 0)
abbrev mX7_category : zM := (yX7_category, cX7_category, 5, (some .int), 1, 20, 0, 0)
abbrev mX7_isSign : zM := (yX7_isSign, cX7_isSign, 1, (some .boolean), 0, 0, 0, 0)
abbrev mX6_group : zM := (yX6_group, cX6_group, 2, (some .int), 2, 104, 0, 0)
abbrev mX0_beginGroup : zM := (yX0_beginGroup, cX0_beginGroup, 1, (some .boolean), 1, 84, 0, 0)
abbrev mX0_endGroup : zM := (yX0_endGroup, cX0_endGroup, 1, (some .boolean), 1, 84, 0, 0)
abbrev mX7_group : zM := (yX7_group, cX7_group, 3, (some .int), 0, 0, 0, 0)
abbrev mX6_endSign : zM := (yX6_endSign, cX6_endSign, 2, (some .int), 1, 20, 0, 0)
abbrev mX7_endSign : zM := (yX7_endSign, cX7_endSign, 2, (some .int), 1, 20, 0, 0)
abbrev mX6_meaning : zM := (yX6_meaning, cX6_meaning, 3, (some .int), 1, 20, 0, 0)
abbrev mX7_meaning : zM := (yX7_meaning, cX7_meaning, 3, (some .int), 1, 20, 0, 0)
abbrev mX6_file : zM := (yX6_file, cX6_file, 1, (some .int), 1, 20, 0, 0)
abbrev mX2_newFile : zM := (yX2_newFile, cX2_newFile, 1, (some .int), 0, 0, 0, 0)
abbrev mX7_file : zM := (yX7_file, cX7_file, 1, (some .int), 0, 0, 0, 0)
abbrev mX6_line : zM := (yX6_line, cX6_line, 2, (some .int), 3, 64, 0, 0)
abbrev mX2_hasFile : zM := (yX2_hasFile, cX2_hasFile, 2, (some .boolean), 0, 0, 0, 0)
abbrev mX2_newLine : zM := (yX2_newLine, cX2_newLine, 3, (some .int), 2, 42, 0, 0)
abbrev mX2_lineCount : zM := (yX2_lineCount, cX2_lineCount, 2, (some .int), 1, 21, 0, 0)
abbrev mX7_line : zM := (yX7_line, cX7_line, 2, (some .int), 1, 21, 0, 0)
abbrev mX7_isFile : zM := (yX7_isFile, cX7_isFile, 2, (some .boolean), 0, 0, 0, 0)
abbrev mX6_add : zM := (yX6_add, cX6_add, 5, (some .int), 3, 69, 0, 0)
abbrev mX2_append : zM := (yX2_append, cX2_append, 8, (some .int), 2, 42, 0, 0)
abbrev mX2_putSign : zM := (yX2_putSign, cX2_putSign, 3, none, 0, 0, 0, 0)
abbrev mX7_add : zM := (yX7_add, cX7_add, 7, (some .int), 1, 21, 0, 0)
abbrev mX6_open : zM := (yX6_open, cX6_open, 2, (some .int), 1, 21, 0, 0)
abbrev mX1_start : zM := (yX1_start, cX1_start, 2, none, 0, 0, 0, 0)
abbrev mX7_open : zM := (yX7_open, cX7_open, 2, (some .int), 1, 21, 0, 0)
abbrev mX6_close : zM := (yX6_close, cX6_close, 2, (some .int), 1, 20, 0, 0)
abbrev mX6_topLevel : zM := (yX6_topLevel, cX6_topLevel, 1, (some (.object "SignCategories$Level")), 0, 0, 0, 0)
abbrev mX7_close : zM := (yX7_close, cX7_close, 1, (some .int), 0, 0, 0, 0)
abbrev mX6_next : zM := (yX6_next, cX6_next, 5, (some .int), 6, 153, 0, 0)
abbrev mX6_refusalAtOnce : zM := (yX6_refusalAtOnce, cX6_refusalAtOnce, 1, (some .int), 1, 20, 0, 0)
abbrev mX5_isFull : zM := (yX5_isFull, cX5_isFull, 1, (some .boolean), 0, 0, 0, 0)
abbrev mX6_levelWithLine : zM := (yX6_levelWithLine, cX6_levelWithLine, 3, (some (.object "SignCategories$Level")), 4, 91, 0, 0)
abbrev mX1_beginLine : zM := (yX1_beginLine, cX1_beginLine, 3, none, 3, 69, 0, 0)
abbrev mX2_copyLine : zM := (yX2_copyLine, cX2_copyLine, 8, (some .int), 2, 42, 0, 0)
abbrev mX2_signAt : zM := (yX2_signAt, cX2_signAt, 2, (some .int), 0, 0, 0, 0)
abbrev mX1_left : zM := (yX1_left, cX1_left, 1, (some .int), 0, 0, 0, 0)
abbrev mX6_readToken : zM := (yX6_readToken, cX6_readToken, 5, (some .int), 5, 129, 0, 0)
abbrev mX1_look : zM := (yX1_look, cX1_look, 4, none, 2, 44, 0, 0)
abbrev mX1_standing : zM := (yX1_standing, cX1_standing, 2, (some .int), 0, 0, 0, 0)
abbrev mX1_tellsAnother : zM := (yX1_tellsAnother, cX1_tellsAnother, 3, (some .boolean), 1, 21, 0, 0)
abbrev mX0_at : zM := (yX0_at, cX0_at, 2, (some .int), 0, 0, 0, 0)
abbrev mX1_tellAnother : zM := (yX1_tellAnother, cX1_tellAnother, 4, none, 1, 21, 0, 0)
abbrev mX1_digit : zM := (yX1_digit, cX1_digit, 1, (some .int), 0, 0, 0, 0)
abbrev mX6_readName : zM := (yX6_readName, cX6_readName, 5, (some .int), 4, 105, 0, 0)
abbrev mX3_beginDraft : zM := (yX3_beginDraft, cX3_beginDraft, 1, none, 0, 0, 0, 0)
abbrev mX6_draftLetters : zM := (yX6_draftLetters, cX6_draftLetters, 3, none, 3, 67, 0, 0)
abbrev mX3_growDraft : zM := (yX3_growDraft, cX3_growDraft, 2, none, 0, 0, 0, 0)
abbrev mX3_draftIsLong : zM := (yX3_draftIsLong, cX3_draftIsLong, 1, (some .boolean), 0, 0, 0, 0)
abbrev mX4_report : zM := (yX4_report, cX4_report, 5, none, 0, 0, 0, 0)
abbrev mX3_numberOfDraft : zM := (yX3_numberOfDraft, cX3_numberOfDraft, 2, (some .int), 3, 84, 0, 0)
abbrev mX3_isDraft : zM := (yX3_isDraft, cX3_isDraft, 3, (some .boolean), 2, 44, 0, 0)
abbrev mX3_has : zM := (yX3_has, cX3_has, 2, (some .boolean), 0, 0, 0, 0)
abbrev mX3_draftLength : zM := (yX3_draftLength, cX3_draftLength, 1, (some .int), 1, 20, 0, 0)
abbrev mX3_sign : zM := (yX3_sign, cX3_sign, 4, (some .int), 1, 21, 0, 0)
abbrev mX5_put : zM := (yX5_put, cX5_put, 7, (some .int), 1, 20, 0, 0)
abbrev mX6_readLineEnd : zM := (yX6_readLineEnd, cX6_readLineEnd, 3, (some .int), 2, 46, 0, 0)
abbrev mX6_readBlank : zM := (yX6_readBlank, cX6_readBlank, 3, (some .int), 2, 46, 0, 0)
abbrev mX6_readActive : zM := (yX6_readActive, cX6_readActive, 4, (some .int), 2, 46, 0, 0)
abbrev mX6_dropUsedLine : zM := (yX6_dropUsedLine, cX6_dropUsedLine, 1, (some .int), 0, 0, 0, 0)
abbrev mX7_next : zM := (yX7_next, cX7_next, 3, (some .int), 4, 96, 0, 0)
abbrev mX7_hasLine : zM := (yX7_hasLine, cX7_hasLine, 3, (some .boolean), 1, 24, 0, 0)
abbrev mX7_begin : zM := (yX7_begin, cX7_begin, 5, none, 0, 0, 0, 0)
abbrev mX7_give : zM := (yX7_give, cX7_give, 7, (some .int), 3, 70, 0, 0)
abbrev mX7_see : zM := (yX7_see, cX7_see, 4, none, 1, 22, 0, 0)
abbrev mX7_standing : zM := (yX7_standing, cX7_standing, 3, (some .int), 0, 0, 0, 0)
abbrev mX7_isLow : zM := (yX7_isLow, cX7_isLow, 1, (some .boolean), 0, 0, 0, 0)
abbrev mX7_digit : zM := (yX7_digit, cX7_digit, 1, (some .int), 0, 0, 0, 0)
abbrev mX7_readWord : zM := (yX7_readWord, cX7_readWord, 6, (some .int), 2, 45, 0, 0)
abbrev mX7_addToWord : zM := (yX7_addToWord, cX7_addToWord, 2, none, 0, 0, 0, 0)
abbrev mX7_tell : zM := (yX7_tell, cX7_tell, 3, none, 0, 0, 0, 0)
abbrev mX7_nameOfWord : zM := (yX7_nameOfWord, cX7_nameOfWord, 4, (some .int), 0, 0, 0, 0)
abbrev mX7_keep : zM := (yX7_keep, cX7_keep, 6, (some .int), 0, 0, 0, 0)
abbrev mX6_raw : zM := (yX6_raw, cX6_raw, 5, (some .int), 5, 113, 0, 0)
abbrev mX7_raw : zM := (yX7_raw, cX7_raw, 3, (some .int), 2, 46, 0, 0)
abbrev mX6_token : zM := (yX6_token, cX6_token, 3, (some .int), 2, 44, 0, 0)
abbrev mX5_has : zM := (yX5_has, cX5_has, 2, (some .boolean), 0, 0, 0, 0)
abbrev mX5_part : zM := (yX5_part, cX5_part, 4, (some .int), 1, 21, 0, 0)
abbrev mX7_token : zM := (yX7_token, cX7_token, 3, (some .int), 0, 0, 0, 0)
abbrev mX7_thrown : zM := (yX7_thrown, cX7_thrown, 1, (some .int), 0, 0, 0, 0)
abbrev mX6_name : zM := (yX6_name, cX6_name, 3, (some .int), 2, 44, 0, 0)
abbrev mX7_name : zM := (yX7_name, cX7_name, 3, (some .int), 0, 0, 0, 0)
abbrev mX6_told : zM := (yX6_told, cX6_told, 3, (some .int), 1, 23, 0, 0)
abbrev mX4_part : zM := (yX4_part, cX4_part, 4, (some .int), 0, 0, 0, 0)
abbrev mX7_told : zM := (yX7_told, cX7_told, 3, (some .int), 0, 0, 0, 0)
abbrev mX6_categoryOf : zM := (yX6_categoryOf, cX6_categoryOf, 2, (some .int), 1, 21, 0, 0)
abbrev mX7_categoryOf : zM := (yX7_categoryOf, cX7_categoryOf, 2, (some .int), 1, 20, 0, 0)
abbrev mX6_state : zM := (yX6_state, cX6_state, 2, (some .int), 1, 20, 0, 0)
abbrev mX7_state : zM := (yX7_state, cX7_state, 1, (some .int), 0, 0, 0, 0)
abbrev mX6_count : zM := (yX6_count, cX6_count, 2, (some .int), 2, 41, 0, 0)
abbrev mX6_signsLeft : zM := (yX6_signsLeft, cX6_signsLeft, 2, (some .int), 1, 20, 0, 0)
abbrev mX7_count : zM := (yX7_count, cX7_count, 3, (some .int), 0, 0, 0, 0)
abbrev mX6_check : zM := (yX6_check, cX6_check, 1, (some .int), 4, 89, 0, 0)
abbrev mX3_allDiffer : zM := (yX3_allDiffer, cX3_allDiffer, 3, (some .boolean), 3, 67, 0, 0)
abbrev mX3_areSame : zM := (yX3_areSame, cX3_areSame, 4, (some .boolean), 2, 44, 0, 0)
abbrev mX6_tokensHaveNames : zM := (yX6_tokensHaveNames, cX6_tokensHaveNames, 2, (some .boolean), 2, 44, 0, 0)
abbrev mX7_check : zM := (yX7_check, cX7_check, 1, (some .int), 0, 0, 0, 0)
theorem wr_1 : ∀ w ∈ wsL_law0_r1, w ∈ wsL_law0 := fun _ h => List.mem_append_left _ (List.mem_append_left _ (List.mem_append_left _ (List.mem_append_left _ (List.mem_append_left _ (List.mem_append_left _ (List.mem_append_left _ (List.mem_append_left _ (List.mem_append_left _ (List.mem_append_left _ (List.mem_append_left _ h))))))))))
theorem wr_2 : ∀ w ∈ wsL_law0_r2, w ∈ wsL_law0 := fun _ h => List.mem_append_left _ (List.mem_append_left _ (List.mem_append_left _ (List.mem_append_left _ (List.mem_append_left _ (List.mem_append_left _ (List.mem_append_left _ (List.mem_append_left _ (List.mem_append_left _ (List.mem_append_left _ (List.mem_append_right _ (List.mem_append_left _ h)))))))))))
theorem wr_3 : ∀ w ∈ wsL_law0_r3, w ∈ wsL_law0 := fun _ h => List.mem_append_left _ (List.mem_append_left _ (List.mem_append_left _ (List.mem_append_left _ (List.mem_append_left _ (List.mem_append_left _ (List.mem_append_left _ (List.mem_append_left _ (List.mem_append_left _ (List.mem_append_left _ (List.mem_append_right _ (List.mem_append_right _ (List.mem_append_left _ h))))))))))))
theorem wr_4 : ∀ w ∈ wsL_law0_r4, w ∈ wsL_law0 := fun _ h => List.mem_append_left _ (List.mem_append_left _ (List.mem_append_left _ (List.mem_append_left _ (List.mem_append_left _ (List.mem_append_left _ (List.mem_append_left _ (List.mem_append_left _ (List.mem_append_left _ (List.mem_append_left _ (List.mem_append_right _ (List.mem_append_right _ (List.mem_append_right _ (List.mem_append_left _ h)))))))))))))
theorem wr_5 : ∀ w ∈ wsL_law0_r5, w ∈ wsL_law0 := fun _ h => List.mem_append_left _ (List.mem_append_left _ (List.mem_append_left _ (List.mem_append_left _ (List.mem_append_left _ (List.mem_append_left _ (List.mem_append_left _ (List.mem_append_left _ (List.mem_append_left _ (List.mem_append_left _ (List.mem_append_right _ (List.mem_append_right _ (List.mem_append_right _ (List.mem_append_right _ (List.mem_append_left _ h))))))))))))))
theorem wr_6 : ∀ w ∈ wsL_law0_r6, w ∈ wsL_law0 := fun _ h => List.mem_append_left _ (List.mem_append_left _ (List.mem_append_left _ (List.mem_append_left _ (List.mem_append_left _ (List.mem_append_left _ (List.mem_append_left _ (List.mem_append_left _ (List.mem_append_left _ (List.mem_append_left _ (List.mem_append_right _ (List.mem_append_right _ (List.mem_append_right _ (List.mem_append_right _ (List.mem_append_right _ (List.mem_append_left _ h)))))))))))))))
theorem wr_7 : ∀ w ∈ wsL_law0_r7, w ∈ wsL_law0 := fun _ h => List.mem_append_left _ (List.mem_append_left _ (List.mem_append_left _ (List.mem_append_left _ (List.mem_append_left _ (List.mem_append_left _ (List.mem_append_left _ (List.mem_append_left _ (List.mem_append_left _ (List.mem_append_left _ (List.mem_append_right _ (List.mem_append_right _ (List.mem_append_right _ (List.mem_append_right _ (List.mem_append_right _ (List.mem_append_right _ (List.mem_append_left _ h))))))))))))))))
theorem wr_8 : ∀ w ∈ wsL_law0_r8, w ∈ wsL_law0 := fun _ h => List.mem_append_left _ (List.mem_append_left _ (List.mem_append_left _ (List.mem_append_left _ (List.mem_append_left _ (List.mem_append_left _ (List.mem_append_left _ (List.mem_append_left _ (List.mem_append_left _ (List.mem_append_left _ (List.mem_append_right _ (List.mem_append_right _ (List.mem_append_right _ (List.mem_append_right _ (List.mem_append_right _ (List.mem_append_right _ (List.mem_append_right _ (List.mem_append_left _ h)))))))))))))))))
theorem wr_9 : ∀ w ∈ wsL_law0_r9, w ∈ wsL_law0 := fun _ h => List.mem_append_left _ (List.mem_append_left _ (List.mem_append_left _ (List.mem_append_left _ (List.mem_append_left _ (List.mem_append_left _ (List.mem_append_left _ (List.mem_append_left _ (List.mem_append_left _ (List.mem_append_left _ (List.mem_append_right _ (List.mem_append_right _ (List.mem_append_right _ (List.mem_append_right _ (List.mem_append_right _ (List.mem_append_right _ (List.mem_append_right _ (List.mem_append_right _ (List.mem_append_left _ h))))))))))))))))))
theorem wr_10 : ∀ w ∈ wsL_law0_r10, w ∈ wsL_law0 := fun _ h => List.mem_append_left _ (List.mem_append_left _ (List.mem_append_left _ (List.mem_append_left _ (List.mem_append_left _ (List.mem_append_left _ (List.mem_append_left _ (List.mem_append_left _ (List.mem_append_left _ (List.mem_append_left _ (List.mem_append_right _ (List.mem_append_right _ (List.mem_append_right _ (List.mem_append_right _ (List.mem_append_right _ (List.mem_append_right _ (List.mem_append_right _ (List.mem_append_right _ (List.mem_append_right _ (List.mem_append_left _ h)))))))))))))))))))
theorem wr_11 : ∀ w ∈ wsL_law0_r11, w ∈ wsL_law0 := fun _ h => List.mem_append_left _ (List.mem_append_left _ (List.mem_append_left _ (List.mem_append_left _ (List.mem_append_left _ (List.mem_append_left _ (List.mem_append_left _ (List.mem_append_left _ (List.mem_append_left _ (List.mem_append_left _ (List.mem_append_right _ (List.mem_append_right _ (List.mem_append_right _ (List.mem_append_right _ (List.mem_append_right _ (List.mem_append_right _ (List.mem_append_right _ (List.mem_append_right _ (List.mem_append_right _ (List.mem_append_right _ (List.mem_append_left _ h))))))))))))))))))))
theorem wr_12 : ∀ w ∈ wsL_law0_r12, w ∈ wsL_law0 := fun _ h => List.mem_append_left _ (List.mem_append_left _ (List.mem_append_left _ (List.mem_append_left _ (List.mem_append_left _ (List.mem_append_left _ (List.mem_append_left _ (List.mem_append_left _ (List.mem_append_left _ (List.mem_append_left _ (List.mem_append_right _ (List.mem_append_right _ (List.mem_append_right _ (List.mem_append_right _ (List.mem_append_right _ (List.mem_append_right _ (List.mem_append_right _ (List.mem_append_right _ (List.mem_append_right _ (List.mem_append_right _ (List.mem_append_right _ (List.mem_append_left _ h)))))))))))))))))))))
theorem wr_13 : ∀ w ∈ wsL_law0_r13, w ∈ wsL_law0 := fun _ h => List.mem_append_left _ (List.mem_append_left _ (List.mem_append_left _ (List.mem_append_left _ (List.mem_append_left _ (List.mem_append_left _ (List.mem_append_left _ (List.mem_append_left _ (List.mem_append_left _ (List.mem_append_left _ (List.mem_append_right _ (List.mem_append_right _ (List.mem_append_right _ (List.mem_append_right _ (List.mem_append_right _ (List.mem_append_right _ (List.mem_append_right _ (List.mem_append_right _ (List.mem_append_right _ (List.mem_append_right _ (List.mem_append_right _ (List.mem_append_right _ (List.mem_append_left _ h))))))))))))))))))))))
theorem wr_14 : ∀ w ∈ wsL_law0_r14, w ∈ wsL_law0 := fun _ h => List.mem_append_left _ (List.mem_append_left _ (List.mem_append_left _ (List.mem_append_left _ (List.mem_append_left _ (List.mem_append_left _ (List.mem_append_left _ (List.mem_append_left _ (List.mem_append_left _ (List.mem_append_left _ (List.mem_append_right _ (List.mem_append_right _ (List.mem_append_right _ (List.mem_append_right _ (List.mem_append_right _ (List.mem_append_right _ (List.mem_append_right _ (List.mem_append_right _ (List.mem_append_right _ (List.mem_append_right _ (List.mem_append_right _ (List.mem_append_right _ (List.mem_append_right _ (List.mem_append_left _ h)))))))))))))))))))))))
theorem wr_15 : ∀ w ∈ wsL_law0_r15, w ∈ wsL_law0 := fun _ h => List.mem_append_left _ (List.mem_append_left _ (List.mem_append_left _ (List.mem_append_left _ (List.mem_append_left _ (List.mem_append_left _ (List.mem_append_left _ (List.mem_append_left _ (List.mem_append_left _ (List.mem_append_left _ (List.mem_append_right _ (List.mem_append_right _ (List.mem_append_right _ (List.mem_append_right _ (List.mem_append_right _ (List.mem_append_right _ (List.mem_append_right _ (List.mem_append_right _ (List.mem_append_right _ (List.mem_append_right _ (List.mem_append_right _ (List.mem_append_right _ (List.mem_append_right _ (List.mem_append_right _ (List.mem_append_left _ h))))))))))))))))))))))))
theorem wr_16 : ∀ w ∈ wsL_law0_r16, w ∈ wsL_law0 := fun _ h => List.mem_append_left _ (List.mem_append_left _ (List.mem_append_left _ (List.mem_append_left _ (List.mem_append_left _ (List.mem_append_left _ (List.mem_append_left _ (List.mem_append_left _ (List.mem_append_left _ (List.mem_append_left _ (List.mem_append_right _ (List.mem_append_right _ (List.mem_append_right _ (List.mem_append_right _ (List.mem_append_right _ (List.mem_append_right _ (List.mem_append_right _ (List.mem_append_right _ (List.mem_append_right _ (List.mem_append_right _ (List.mem_append_right _ (List.mem_append_right _ (List.mem_append_right _ (List.mem_append_right _ (List.mem_append_right _ (List.mem_append_left _ h)))))))))))))))))))))))))
theorem wr_17 : ∀ w ∈ wsL_law0_r17, w ∈ wsL_law0 := fun _ h => List.mem_append_left _ (List.mem_append_left _ (List.mem_append_left _ (List.mem_append_left _ (List.mem_append_left _ (List.mem_append_left _ (List.mem_append_left _ (List.mem_append_left _ (List.mem_append_left _ (List.mem_append_left _ (List.mem_append_right _ (List.mem_append_right _ (List.mem_append_right _ (List.mem_append_right _ (List.mem_append_right _ (List.mem_append_right _ (List.mem_append_right _ (List.mem_append_right _ (List.mem_append_right _ (List.mem_append_right _ (List.mem_append_right _ (List.mem_append_right _ (List.mem_append_right _ (List.mem_append_right _ (List.mem_append_right _ (List.mem_append_right _ (List.mem_append_left _ h))))))))))))))))))))))))))
theorem wr_18 : ∀ w ∈ wsL_law0_r18, w ∈ wsL_law0 := fun _ h => List.mem_append_left _ (List.mem_append_left _ (List.mem_append_left _ (List.mem_append_left _ (List.mem_append_left _ (List.mem_append_left _ (List.mem_append_left _ (List.mem_append_left _ (List.mem_append_left _ (List.mem_append_left _ (List.mem_append_right _ (List.mem_append_right _ (List.mem_append_right _ (List.mem_append_right _ (List.mem_append_right _ (List.mem_append_right _ (List.mem_append_right _ (List.mem_append_right _ (List.mem_append_right _ (List.mem_append_right _ (List.mem_append_right _ (List.mem_append_right _ (List.mem_append_right _ (List.mem_append_right _ (List.mem_append_right _ (List.mem_append_right _ (List.mem_append_right _ (List.mem_append_left _ h)))))))))))))))))))))))))))
theorem wr_19 : ∀ w ∈ wsL_law0_r19, w ∈ wsL_law0 := fun _ h => List.mem_append_left _ (List.mem_append_left _ (List.mem_append_left _ (List.mem_append_left _ (List.mem_append_left _ (List.mem_append_left _ (List.mem_append_left _ (List.mem_append_left _ (List.mem_append_left _ (List.mem_append_left _ (List.mem_append_right _ (List.mem_append_right _ (List.mem_append_right _ (List.mem_append_right _ (List.mem_append_right _ (List.mem_append_right _ (List.mem_append_right _ (List.mem_append_right _ (List.mem_append_right _ (List.mem_append_right _ (List.mem_append_right _ (List.mem_append_right _ (List.mem_append_right _ (List.mem_append_right _ (List.mem_append_right _ (List.mem_append_right _ (List.mem_append_right _ (List.mem_append_right _ (List.mem_append_left _ h))))))))))))))))))))))))))))
theorem wr_20 : ∀ w ∈ wsL_law0_r20, w ∈ wsL_law0 := fun _ h => List.mem_append_left _ (List.mem_append_left _ (List.mem_append_left _ (List.mem_append_left _ (List.mem_append_left _ (List.mem_append_left _ (List.mem_append_left _ (List.mem_append_left _ (List.mem_append_left _ (List.mem_append_left _ (List.mem_append_right _ (List.mem_append_right _ (List.mem_append_right _ (List.mem_append_right _ (List.mem_append_right _ (List.mem_append_right _ (List.mem_append_right _ (List.mem_append_right _ (List.mem_append_right _ (List.mem_append_right _ (List.mem_append_right _ (List.mem_append_right _ (List.mem_append_right _ (List.mem_append_right _ (List.mem_append_right _ (List.mem_append_right _ (List.mem_append_right _ (List.mem_append_right _ (List.mem_append_right _ (List.mem_append_left _ h)))))))))))))))))))))))))))))
theorem wr_21 : ∀ w ∈ wsL_law0_r21, w ∈ wsL_law0 := fun _ h => List.mem_append_left _ (List.mem_append_left _ (List.mem_append_left _ (List.mem_append_left _ (List.mem_append_left _ (List.mem_append_left _ (List.mem_append_left _ (List.mem_append_left _ (List.mem_append_left _ (List.mem_append_left _ (List.mem_append_right _ (List.mem_append_right _ (List.mem_append_right _ (List.mem_append_right _ (List.mem_append_right _ (List.mem_append_right _ (List.mem_append_right _ (List.mem_append_right _ (List.mem_append_right _ (List.mem_append_right _ (List.mem_append_right _ (List.mem_append_right _ (List.mem_append_right _ (List.mem_append_right _ (List.mem_append_right _ (List.mem_append_right _ (List.mem_append_right _ (List.mem_append_right _ (List.mem_append_right _ (List.mem_append_right _ (List.mem_append_left _ h))))))))))))))))))))))))))))))
theorem wr_22 : ∀ w ∈ wsL_law0_r22, w ∈ wsL_law0 := fun _ h => List.mem_append_left _ (List.mem_append_left _ (List.mem_append_left _ (List.mem_append_left _ (List.mem_append_left _ (List.mem_append_left _ (List.mem_append_left _ (List.mem_append_left _ (List.mem_append_left _ (List.mem_append_left _ (List.mem_append_right _ (List.mem_append_right _ (List.mem_append_right _ (List.mem_append_right _ (List.mem_append_right _ (List.mem_append_right _ (List.mem_append_right _ (List.mem_append_right _ (List.mem_append_right _ (List.mem_append_right _ (List.mem_append_right _ (List.mem_append_right _ (List.mem_append_right _ (List.mem_append_right _ (List.mem_append_right _ (List.mem_append_right _ (List.mem_append_right _ (List.mem_append_right _ (List.mem_append_right _ (List.mem_append_right _ (List.mem_append_right _ (List.mem_append_left _ h)))))))))))))))))))))))))))))))
theorem wr_23 : ∀ w ∈ wsL_law0_r23, w ∈ wsL_law0 := fun _ h => List.mem_append_left _ (List.mem_append_left _ (List.mem_append_left _ (List.mem_append_left _ (List.mem_append_left _ (List.mem_append_left _ (List.mem_append_left _ (List.mem_append_left _ (List.mem_append_left _ (List.mem_append_left _ (List.mem_append_right _ (List.mem_append_right _ (List.mem_append_right _ (List.mem_append_right _ (List.mem_append_right _ (List.mem_append_right _ (List.mem_append_right _ (List.mem_append_right _ (List.mem_append_right _ (List.mem_append_right _ (List.mem_append_right _ (List.mem_append_right _ (List.mem_append_right _ (List.mem_append_right _ (List.mem_append_right _ (List.mem_append_right _ (List.mem_append_right _ (List.mem_append_right _ (List.mem_append_right _ (List.mem_append_right _ (List.mem_append_right _ (List.mem_append_right _ (List.mem_append_left _ h))))))))))))))))))))))))))))))))
theorem wr_24 : ∀ w ∈ wsL_law0_r24, w ∈ wsL_law0 := fun _ h => List.mem_append_left _ (List.mem_append_left _ (List.mem_append_left _ (List.mem_append_left _ (List.mem_append_left _ (List.mem_append_left _ (List.mem_append_left _ (List.mem_append_left _ (List.mem_append_left _ (List.mem_append_left _ (List.mem_append_right _ (List.mem_append_right _ (List.mem_append_right _ (List.mem_append_right _ (List.mem_append_right _ (List.mem_append_right _ (List.mem_append_right _ (List.mem_append_right _ (List.mem_append_right _ (List.mem_append_right _ (List.mem_append_right _ (List.mem_append_right _ (List.mem_append_right _ (List.mem_append_right _ (List.mem_append_right _ (List.mem_append_right _ (List.mem_append_right _ (List.mem_append_right _ (List.mem_append_right _ (List.mem_append_right _ (List.mem_append_right _ (List.mem_append_right _ (List.mem_append_right _ (h)))))))))))))))))))))))))))))))))
theorem wi_X0 : ∀ w ∈ wsX00, w ∈ wsL_law0 := fun _ h => by unfold wsL_law0; simp only [List.mem_append]; simp only [h, true_or, or_true]
theorem wi_X1 : ∀ w ∈ wsX10, w ∈ wsL_law0 := fun _ h => by unfold wsL_law0; simp only [List.mem_append]; simp only [h, true_or, or_true]
theorem wi_X2 : ∀ w ∈ wsX20, w ∈ wsL_law0 := fun _ h => by unfold wsL_law0; simp only [List.mem_append]; simp only [h, true_or, or_true]
theorem wi_X3 : ∀ w ∈ wsX30, w ∈ wsL_law0 := fun _ h => by unfold wsL_law0; simp only [List.mem_append]; simp only [h, true_or, or_true]
theorem wi_X4 : ∀ w ∈ wsX40, w ∈ wsL_law0 := fun _ h => by unfold wsL_law0; simp only [List.mem_append]; simp only [h, true_or, or_true]
theorem wi_X5 : ∀ w ∈ wsX50, w ∈ wsL_law0 := fun _ h => by unfold wsL_law0; simp only [List.mem_append]; simp only [h, true_or, or_true]
theorem wi_X6 : ∀ w ∈ wsX60, w ∈ wsL_law0 := fun _ h => by unfold wsL_law0; simp only [List.mem_append]; simp only [h, true_or, or_true]
theorem wi_X7 : ∀ w ∈ wsX70, w ∈ wsL_law0 := fun _ h => by unfold wsL_law0; simp only [List.mem_append]; simp only [h, true_or, or_true]
theorem zf_X6_10 : zFld RX6 10 8 0 := ⟨RX6, TX6, 10, "SignCategories", rfl, wi_X6, by decide, (wr_1 _ (List.mem_of_getElem? (i := 17) rfl)), rfl⟩
theorem zf_X6_16 : zFld RX6 16 8 1 := ⟨RX6, TX6, 10, "SignCategories", rfl, wi_X6, by decide, (wr_1 _ (List.mem_of_getElem? (i := 19) rfl)), rfl⟩
theorem zf_X6_23 : zFld RX6 23 8 2 := ⟨RX6, TX6, 10, "SignCategories", rfl, wi_X6, by decide, (wr_1 _ (List.mem_of_getElem? (i := 23) rfl)), rfl⟩
theorem zf_X6_29 : zFld RX6 29 8 3 := ⟨RX6, TX6, 10, "SignCategories", rfl, wi_X6, by decide, (wr_2 _ (List.mem_of_getElem? (i := 1) rfl)), rfl⟩
theorem zf_X6_37 : zFld RX6 37 8 4 := ⟨RX6, TX6, 10, "SignCategories", rfl, wi_X6, by decide, (wr_2 _ (List.mem_of_getElem? (i := 7) rfl)), rfl⟩
theorem zf_X6_44 : zFld RX6 44 8 5 := ⟨RX6, TX6, 10, "SignCategories", rfl, wi_X6, by decide, (wr_2 _ (List.mem_of_getElem? (i := 11) rfl)), rfl⟩
theorem zf_X6_51 : zFld RX6 51 8 6 := ⟨RX6, TX6, 10, "SignCategories", rfl, wi_X6, by decide, (wr_2 _ (List.mem_of_getElem? (i := 15) rfl)), rfl⟩
theorem zf_X6_55 : zFld RX6 55 8 8 := ⟨RX6, TX6, 10, "SignCategories", rfl, wi_X6, by decide, (wr_2 _ (List.mem_of_getElem? (i := 16) rfl)), rfl⟩
theorem zp_X6_55 : zPut RX6 55 8 8 .int := ⟨RX6, TX6, 10, "SignCategories", tyX6, rfl, wi_X6, by decide, (wr_2 _ (List.mem_of_getElem? (i := 16) rfl)), rfl, tyX6_ok, nmX6, rfl, by decide +kernel⟩
theorem zf_X0_9 : zFld RX0 9 2 0 := ⟨RX0, TX0, 3, "SignCategories$CategoryTable", rfl, wi_X0, by decide, (wr_2 _ (List.mem_of_getElem? (i := 22) rfl)), rfl⟩
theorem zf_X0_15 : zFld RX0 15 2 1 := ⟨RX0, TX0, 3, "SignCategories$CategoryTable", rfl, wi_X0, by decide, (wr_2 _ (List.mem_of_getElem? (i := 23) rfl)), rfl⟩
theorem zf_X2_9 : zFld RX2 9 4 0 := ⟨RX2, TX2, 4, "SignCategories$Library", rfl, wi_X2, by decide, (wr_3 _ (List.mem_of_getElem? (i := 7) rfl)), rfl⟩
theorem zf_X2_15 : zFld RX2 15 4 1 := ⟨RX2, TX2, 4, "SignCategories$Library", rfl, wi_X2, by decide, (wr_3 _ (List.mem_of_getElem? (i := 8) rfl)), rfl⟩
theorem zf_X2_18 : zFld RX2 18 4 2 := ⟨RX2, TX2, 4, "SignCategories$Library", rfl, wi_X2, by decide, (wr_3 _ (List.mem_of_getElem? (i := 9) rfl)), rfl⟩
theorem zf_X1_9 : zFld RX1 9 3 0 := ⟨RX1, TX1, 10, "SignCategories$Level", rfl, wi_X1, by decide, (wr_3 _ (List.mem_of_getElem? (i := 14) rfl)), rfl⟩
theorem zf_X3_9 : zFld RX3 9 5 0 := ⟨RX3, TX3, 5, "SignCategories$Names", rfl, wi_X3, by decide, (wr_3 _ (List.mem_of_getElem? (i := 19) rfl)), rfl⟩
theorem zf_X3_15 : zFld RX3 15 5 1 := ⟨RX3, TX3, 5, "SignCategories$Names", rfl, wi_X3, by decide, (wr_3 _ (List.mem_of_getElem? (i := 20) rfl)), rfl⟩
theorem zf_X3_18 : zFld RX3 18 5 2 := ⟨RX3, TX3, 5, "SignCategories$Names", rfl, wi_X3, by decide, (wr_3 _ (List.mem_of_getElem? (i := 21) rfl)), rfl⟩
theorem zf_X3_21 : zFld RX3 21 5 3 := ⟨RX3, TX3, 5, "SignCategories$Names", rfl, wi_X3, by decide, (wr_3 _ (List.mem_of_getElem? (i := 22) rfl)), rfl⟩
theorem zp_X3_21 : zPut RX3 21 5 3 .int := ⟨RX3, TX3, 5, "SignCategories$Names", tyX3, rfl, wi_X3, by decide, (wr_3 _ (List.mem_of_getElem? (i := 22) rfl)), rfl, tyX3_ok, nmX3, rfl, by decide +kernel⟩
theorem zf_X5_9 : zFld RX5 9 7 0 := ⟨RX5, TX5, 2, "SignCategories$Tokens", rfl, wi_X5, by decide, (wr_4 _ (List.mem_of_getElem? (i := 3) rfl)), rfl⟩
theorem zf_X4_9 : zFld RX4 9 6 0 := ⟨RX4, TX4, 2, "SignCategories$Reports", rfl, wi_X4, by decide, (wr_4 _ (List.mem_of_getElem? (i := 8) rfl)), rfl⟩
theorem zf_X7_7 : zFld RX7 7 9 1 := ⟨RX7, TX7, 30, "SignCategoriesModel", rfl, wi_X7, by decide, (wr_4 _ (List.mem_of_getElem? (i := 13) rfl)), rfl⟩
theorem zf_X7_13 : zFld RX7 13 9 2 := ⟨RX7, TX7, 30, "SignCategoriesModel", rfl, wi_X7, by decide, (wr_4 _ (List.mem_of_getElem? (i := 14) rfl)), rfl⟩
theorem zf_X7_16 : zFld RX7 16 9 4 := ⟨RX7, TX7, 30, "SignCategoriesModel", rfl, wi_X7, by decide, (wr_4 _ (List.mem_of_getElem? (i := 15) rfl)), rfl⟩
theorem zf_X7_20 : zFld RX7 20 9 5 := ⟨RX7, TX7, 30, "SignCategoriesModel", rfl, wi_X7, by decide, (wr_4 _ (List.mem_of_getElem? (i := 16) rfl)), rfl⟩
theorem zp_X7_20 : zPut RX7 20 9 5 .int := ⟨RX7, TX7, 30, "SignCategoriesModel", tyX7, rfl, wi_X7, by decide, (wr_4 _ (List.mem_of_getElem? (i := 16) rfl)), rfl, tyX7_ok, nmX7, rfl, by decide +kernel⟩
theorem zf_X7_24 : zFld RX7 24 9 7 := ⟨RX7, TX7, 30, "SignCategoriesModel", rfl, wi_X7, by decide, (wr_4 _ (List.mem_of_getElem? (i := 17) rfl)), rfl⟩
theorem zf_X7_27 : zFld RX7 27 9 8 := ⟨RX7, TX7, 30, "SignCategoriesModel", rfl, wi_X7, by decide, (wr_4 _ (List.mem_of_getElem? (i := 18) rfl)), rfl⟩
theorem zf_X7_30 : zFld RX7 30 9 9 := ⟨RX7, TX7, 30, "SignCategoriesModel", rfl, wi_X7, by decide, (wr_4 _ (List.mem_of_getElem? (i := 19) rfl)), rfl⟩
theorem zf_X7_33 : zFld RX7 33 9 11 := ⟨RX7, TX7, 30, "SignCategoriesModel", rfl, wi_X7, by decide, (wr_4 _ (List.mem_of_getElem? (i := 20) rfl)), rfl⟩
theorem zf_X7_36 : zFld RX7 36 9 12 := ⟨RX7, TX7, 30, "SignCategoriesModel", rfl, wi_X7, by decide, (wr_4 _ (List.mem_of_getElem? (i := 21) rfl)), rfl⟩
theorem zf_X7_39 : zFld RX7 39 9 13 := ⟨RX7, TX7, 30, "SignCategoriesModel", rfl, wi_X7, by decide, (wr_4 _ (List.mem_of_getElem? (i := 22) rfl)), rfl⟩
theorem zf_X7_42 : zFld RX7 42 9 14 := ⟨RX7, TX7, 30, "SignCategoriesModel", rfl, wi_X7, by decide, (wr_4 _ (List.mem_of_getElem? (i := 23) rfl)), rfl⟩
theorem zf_X7_45 : zFld RX7 45 9 15 := ⟨RX7, TX7, 30, "SignCategoriesModel", rfl, wi_X7, by decide, (wr_5 _ (List.mem_of_getElem? (i := 0) rfl)), rfl⟩
theorem zf_X7_48 : zFld RX7 48 9 16 := ⟨RX7, TX7, 30, "SignCategoriesModel", rfl, wi_X7, by decide, (wr_5 _ (List.mem_of_getElem? (i := 1) rfl)), rfl⟩
theorem zf_X7_51 : zFld RX7 51 9 17 := ⟨RX7, TX7, 30, "SignCategoriesModel", rfl, wi_X7, by decide, (wr_5 _ (List.mem_of_getElem? (i := 2) rfl)), rfl⟩
theorem zf_X7_54 : zFld RX7 54 9 20 := ⟨RX7, TX7, 30, "SignCategoriesModel", rfl, wi_X7, by decide, (wr_5 _ (List.mem_of_getElem? (i := 3) rfl)), rfl⟩
theorem zf_X7_57 : zFld RX7 57 9 22 := ⟨RX7, TX7, 30, "SignCategoriesModel", rfl, wi_X7, by decide, (wr_5 _ (List.mem_of_getElem? (i := 4) rfl)), rfl⟩
theorem zf_X7_60 : zFld RX7 60 9 23 := ⟨RX7, TX7, 30, "SignCategoriesModel", rfl, wi_X7, by decide, (wr_5 _ (List.mem_of_getElem? (i := 5) rfl)), rfl⟩
theorem zf_X7_63 : zFld RX7 63 9 25 := ⟨RX7, TX7, 30, "SignCategoriesModel", rfl, wi_X7, by decide, (wr_5 _ (List.mem_of_getElem? (i := 6) rfl)), rfl⟩
theorem zf_X7_66 : zFld RX7 66 9 28 := ⟨RX7, TX7, 30, "SignCategoriesModel", rfl, wi_X7, by decide, (wr_5 _ (List.mem_of_getElem? (i := 7) rfl)), rfl⟩
theorem zf_X7_69 : zFld RX7 69 9 21 := ⟨RX7, TX7, 30, "SignCategoriesModel", rfl, wi_X7, by decide, (wr_5 _ (List.mem_of_getElem? (i := 8) rfl)), rfl⟩
theorem zp_X7_69 : zPut RX7 69 9 21 .int := ⟨RX7, TX7, 30, "SignCategoriesModel", tyX7, rfl, wi_X7, by decide, (wr_5 _ (List.mem_of_getElem? (i := 8) rfl)), rfl, tyX7_ok, nmX7, rfl, by decide +kernel⟩
theorem zf_X0_26 : zFld RX0 26 2 2 := ⟨RX0, TX0, 3, "SignCategories$CategoryTable", rfl, wi_X0, by decide, (wr_5 _ (List.mem_of_getElem? (i := 20) rfl)), rfl⟩
theorem zp_X0_26 : zPut RX0 26 2 2 .int := ⟨RX0, TX0, 3, "SignCategories$CategoryTable", tyX0, rfl, wi_X0, by decide, (wr_5 _ (List.mem_of_getElem? (i := 20) rfl)), rfl, tyX0_ok, nmX0, rfl, by decide +kernel⟩
theorem zf_X7_72 : zFld RX7 72 9 0 := ⟨RX7, TX7, 30, "SignCategoriesModel", rfl, wi_X7, by decide, (wr_6 _ (List.mem_of_getElem? (i := 6) rfl)), rfl⟩
theorem zp_X7_72 : zPut RX7 72 9 0 .int := ⟨RX7, TX7, 30, "SignCategoriesModel", tyX7, rfl, wi_X7, by decide, (wr_6 _ (List.mem_of_getElem? (i := 6) rfl)), rfl, tyX7_ok, nmX7, rfl, by decide +kernel⟩
theorem zf_X7_79 : zFld RX7 79 9 3 := ⟨RX7, TX7, 30, "SignCategoriesModel", rfl, wi_X7, by decide, (wr_6 _ (List.mem_of_getElem? (i := 7) rfl)), rfl⟩
theorem zp_X7_79 : zPut RX7 79 9 3 .int := ⟨RX7, TX7, 30, "SignCategoriesModel", tyX7, rfl, wi_X7, by decide, (wr_6 _ (List.mem_of_getElem? (i := 7) rfl)), rfl, tyX7_ok, nmX7, rfl, by decide +kernel⟩
theorem zf_X6_74 : zFld RX6 74 2 2 := ⟨RX0, TX0, 3, "SignCategories$CategoryTable", rfl, wi_X0, by decide, (wr_6 _ (List.mem_of_getElem? (i := 15) rfl)), rfl⟩
theorem zp_X6_74 : zPut RX6 74 2 2 .int := ⟨RX0, TX0, 3, "SignCategories$CategoryTable", tyX0, rfl, wi_X0, by decide, (wr_6 _ (List.mem_of_getElem? (i := 15) rfl)), rfl, tyX0_ok, nmX0, rfl, by decide +kernel⟩
theorem zf_X2_21 : zFld RX2 21 4 3 := ⟨RX2, TX2, 4, "SignCategories$Library", rfl, wi_X2, by decide, (wr_8 _ (List.mem_of_getElem? (i := 8) rfl)), rfl⟩
theorem zp_X2_21 : zPut RX2 21 4 3 .int := ⟨RX2, TX2, 4, "SignCategories$Library", tyX2, rfl, wi_X2, by decide, (wr_8 _ (List.mem_of_getElem? (i := 8) rfl)), rfl, tyX2_ok, nmX2, rfl, by decide +kernel⟩
theorem zf_X7_82 : zFld RX7 82 9 6 := ⟨RX7, TX7, 30, "SignCategoriesModel", rfl, wi_X7, by decide, (wr_8 _ (List.mem_of_getElem? (i := 13) rfl)), rfl⟩
theorem zp_X7_82 : zPut RX7 82 9 6 .int := ⟨RX7, TX7, 30, "SignCategoriesModel", tyX7, rfl, wi_X7, by decide, (wr_8 _ (List.mem_of_getElem? (i := 13) rfl)), rfl, tyX7_ok, nmX7, rfl, by decide +kernel⟩
theorem zf_X6_95 : zFld RX6 95 8 7 := ⟨RX6, TX6, 10, "SignCategories", rfl, wi_X6, by decide, (wr_10 _ (List.mem_of_getElem? (i := 12) rfl)), rfl⟩
theorem zp_X6_95 : zPut RX6 95 8 7 .int := ⟨RX6, TX6, 10, "SignCategories", tyX6, rfl, wi_X6, by decide, (wr_10 _ (List.mem_of_getElem? (i := 12) rfl)), rfl, tyX6_ok, nmX6, rfl, by decide +kernel⟩
theorem zf_X1_15 : zFld RX1 15 3 1 := ⟨RX1, TX1, 10, "SignCategories$Level", rfl, wi_X1, by decide, (wr_10 _ (List.mem_of_getElem? (i := 17) rfl)), rfl⟩
theorem zp_X1_15 : zPut RX1 15 3 1 .int := ⟨RX1, TX1, 10, "SignCategories$Level", tyX1, rfl, wi_X1, by decide, (wr_10 _ (List.mem_of_getElem? (i := 17) rfl)), rfl, tyX1_ok, nmX1, rfl, by decide +kernel⟩
theorem zf_X1_19 : zFld RX1 19 3 2 := ⟨RX1, TX1, 10, "SignCategories$Level", rfl, wi_X1, by decide, (wr_10 _ (List.mem_of_getElem? (i := 18) rfl)), rfl⟩
theorem zp_X1_19 : zPut RX1 19 3 2 .int := ⟨RX1, TX1, 10, "SignCategories$Level", tyX1, rfl, wi_X1, by decide, (wr_10 _ (List.mem_of_getElem? (i := 18) rfl)), rfl, tyX1_ok, nmX1, rfl, by decide +kernel⟩
theorem zf_X1_22 : zFld RX1 22 3 3 := ⟨RX1, TX1, 10, "SignCategories$Level", rfl, wi_X1, by decide, (wr_10 _ (List.mem_of_getElem? (i := 19) rfl)), rfl⟩
theorem zp_X1_22 : zPut RX1 22 3 3 .boolean := ⟨RX1, TX1, 10, "SignCategories$Level", tyX1, rfl, wi_X1, by decide, (wr_10 _ (List.mem_of_getElem? (i := 19) rfl)), rfl, tyX1_ok, nmX1, rfl, by decide +kernel⟩
theorem zf_X1_26 : zFld RX1 26 3 4 := ⟨RX1, TX1, 10, "SignCategories$Level", rfl, wi_X1, by decide, (wr_10 _ (List.mem_of_getElem? (i := 20) rfl)), rfl⟩
theorem zp_X1_26 : zPut RX1 26 3 4 .boolean := ⟨RX1, TX1, 10, "SignCategories$Level", tyX1, rfl, wi_X1, by decide, (wr_10 _ (List.mem_of_getElem? (i := 20) rfl)), rfl, tyX1_ok, nmX1, rfl, by decide +kernel⟩
theorem zf_X7_90 : zFld RX7 90 9 10 := ⟨RX7, TX7, 30, "SignCategoriesModel", rfl, wi_X7, by decide, (wr_11 _ (List.mem_of_getElem? (i := 1) rfl)), rfl⟩
theorem zp_X7_90 : zPut RX7 90 9 10 .int := ⟨RX7, TX7, 30, "SignCategoriesModel", tyX7, rfl, wi_X7, by decide, (wr_11 _ (List.mem_of_getElem? (i := 1) rfl)), rfl, tyX7_ok, nmX7, rfl, by decide +kernel⟩
theorem zf_X6_106 : zFld RX6 106 3 3 := ⟨RX1, TX1, 10, "SignCategories$Level", rfl, wi_X1, by decide, (wr_11 _ (List.mem_of_getElem? (i := 6) rfl)), rfl⟩
theorem zp_X6_106 : zPut RX6 106 3 3 .boolean := ⟨RX1, TX1, 10, "SignCategories$Level", tyX1, rfl, wi_X1, by decide, (wr_11 _ (List.mem_of_getElem? (i := 6) rfl)), rfl, tyX1_ok, nmX1, rfl, by decide +kernel⟩
theorem zf_X5_15 : zFld RX5 15 7 1 := ⟨RX5, TX5, 2, "SignCategories$Tokens", rfl, wi_X5, by decide, (wr_12 _ (List.mem_of_getElem? (i := 4) rfl)), rfl⟩
theorem zp_X5_15 : zPut RX5 15 7 1 .int := ⟨RX5, TX5, 2, "SignCategories$Tokens", tyX5, rfl, wi_X5, by decide, (wr_12 _ (List.mem_of_getElem? (i := 4) rfl)), rfl, tyX5_ok, nmX5, rfl, by decide +kernel⟩
theorem zf_X6_133 : zFld RX6 133 3 4 := ⟨RX1, TX1, 10, "SignCategories$Level", rfl, wi_X1, by decide, (wr_12 _ (List.mem_of_getElem? (i := 9) rfl)), rfl⟩
theorem zp_X6_133 : zPut RX6 133 3 4 .boolean := ⟨RX1, TX1, 10, "SignCategories$Level", tyX1, rfl, wi_X1, by decide, (wr_12 _ (List.mem_of_getElem? (i := 9) rfl)), rfl, tyX1_ok, nmX1, rfl, by decide +kernel⟩
theorem zf_X6_188 : zFld RX6 188 3 2 := ⟨RX1, TX1, 10, "SignCategories$Level", rfl, wi_X1, by decide, (wr_12 _ (List.mem_of_getElem? (i := 10) rfl)), rfl⟩
theorem zp_X6_188 : zPut RX6 188 3 2 .int := ⟨RX1, TX1, 10, "SignCategories$Level", tyX1, rfl, wi_X1, by decide, (wr_12 _ (List.mem_of_getElem? (i := 10) rfl)), rfl, tyX1_ok, nmX1, rfl, by decide +kernel⟩
theorem zf_X6_191 : zFld RX6 191 3 1 := ⟨RX1, TX1, 10, "SignCategories$Level", rfl, wi_X1, by decide, (wr_12 _ (List.mem_of_getElem? (i := 11) rfl)), rfl⟩
theorem zp_X6_191 : zPut RX6 191 3 1 .int := ⟨RX1, TX1, 10, "SignCategories$Level", tyX1, rfl, wi_X1, by decide, (wr_12 _ (List.mem_of_getElem? (i := 11) rfl)), rfl, tyX1_ok, nmX1, rfl, by decide +kernel⟩
theorem zf_X6_175 : zFld RX6 175 8 9 := ⟨RX6, TX6, 10, "SignCategories", rfl, wi_X6, by decide, (wr_12 _ (List.mem_of_getElem? (i := 12) rfl)), rfl⟩
theorem zp_X6_175 : zPut RX6 175 8 9 .int := ⟨RX6, TX6, 10, "SignCategories", tyX6, rfl, wi_X6, by decide, (wr_12 _ (List.mem_of_getElem? (i := 12) rfl)), rfl, tyX6_ok, nmX6, rfl, by decide +kernel⟩
theorem zf_X1_35 : zFld RX1 35 3 5 := ⟨RX1, TX1, 10, "SignCategories$Level", rfl, wi_X1, by decide, (wr_12 _ (List.mem_of_getElem? (i := 18) rfl)), rfl⟩
theorem zp_X1_35 : zPut RX1 35 3 5 .int := ⟨RX1, TX1, 10, "SignCategories$Level", tyX1, rfl, wi_X1, by decide, (wr_12 _ (List.mem_of_getElem? (i := 18) rfl)), rfl, tyX1_ok, nmX1, rfl, by decide +kernel⟩
theorem zf_X1_38 : zFld RX1 38 3 6 := ⟨RX1, TX1, 10, "SignCategories$Level", rfl, wi_X1, by decide, (wr_12 _ (List.mem_of_getElem? (i := 19) rfl)), rfl⟩
theorem zp_X1_38 : zPut RX1 38 3 6 .int := ⟨RX1, TX1, 10, "SignCategories$Level", tyX1, rfl, wi_X1, by decide, (wr_12 _ (List.mem_of_getElem? (i := 19) rfl)), rfl, tyX1_ok, nmX1, rfl, by decide +kernel⟩
theorem zf_X1_41 : zFld RX1 41 3 7 := ⟨RX1, TX1, 10, "SignCategories$Level", rfl, wi_X1, by decide, (wr_12 _ (List.mem_of_getElem? (i := 20) rfl)), rfl⟩
theorem zp_X1_41 : zPut RX1 41 3 7 .int := ⟨RX1, TX1, 10, "SignCategories$Level", tyX1, rfl, wi_X1, by decide, (wr_12 _ (List.mem_of_getElem? (i := 20) rfl)), rfl, tyX1_ok, nmX1, rfl, by decide +kernel⟩
theorem zf_X6_127 : zFld RX6 127 3 6 := ⟨RX1, TX1, 10, "SignCategories$Level", rfl, wi_X1, by decide, (wr_13 _ (List.mem_of_getElem? (i := 13) rfl)), rfl⟩
theorem zp_X6_127 : zPut RX6 127 3 6 .int := ⟨RX1, TX1, 10, "SignCategories$Level", tyX1, rfl, wi_X1, by decide, (wr_13 _ (List.mem_of_getElem? (i := 13) rfl)), rfl, tyX1_ok, nmX1, rfl, by decide +kernel⟩
theorem zf_X6_205 : zFld RX6 205 3 8 := ⟨RX1, TX1, 10, "SignCategories$Level", rfl, wi_X1, by decide, (wr_13 _ (List.mem_of_getElem? (i := 14) rfl)), rfl⟩
theorem zp_X6_205 : zPut RX6 205 3 8 .int := ⟨RX1, TX1, 10, "SignCategories$Level", tyX1, rfl, wi_X1, by decide, (wr_13 _ (List.mem_of_getElem? (i := 14) rfl)), rfl, tyX1_ok, nmX1, rfl, by decide +kernel⟩
theorem zf_X6_207 : zFld RX6 207 3 9 := ⟨RX1, TX1, 10, "SignCategories$Level", rfl, wi_X1, by decide, (wr_13 _ (List.mem_of_getElem? (i := 15) rfl)), rfl⟩
theorem zp_X6_207 : zPut RX6 207 3 9 .int := ⟨RX1, TX1, 10, "SignCategories$Level", tyX1, rfl, wi_X1, by decide, (wr_13 _ (List.mem_of_getElem? (i := 15) rfl)), rfl, tyX1_ok, nmX1, rfl, by decide +kernel⟩
theorem zf_X6_164 : zFld RX6 164 7 1 := ⟨RX5, TX5, 2, "SignCategories$Tokens", rfl, wi_X5, by decide, (wr_13 _ (List.mem_of_getElem? (i := 16) rfl)), rfl⟩
theorem zp_X6_164 : zPut RX6 164 7 1 .int := ⟨RX5, TX5, 2, "SignCategories$Tokens", tyX5, rfl, wi_X5, by decide, (wr_13 _ (List.mem_of_getElem? (i := 16) rfl)), rfl, tyX5_ok, nmX5, rfl, by decide +kernel⟩
theorem zf_X6_161 : zFld RX6 161 3 7 := ⟨RX1, TX1, 10, "SignCategories$Level", rfl, wi_X1, by decide, (wr_13 _ (List.mem_of_getElem? (i := 17) rfl)), rfl⟩
theorem zp_X6_161 : zPut RX6 161 3 7 .int := ⟨RX1, TX1, 10, "SignCategories$Level", tyX1, rfl, wi_X1, by decide, (wr_13 _ (List.mem_of_getElem? (i := 17) rfl)), rfl, tyX1_ok, nmX1, rfl, by decide +kernel⟩
theorem zf_X1_48 : zFld RX1 48 3 8 := ⟨RX1, TX1, 10, "SignCategories$Level", rfl, wi_X1, by decide, (wr_13 _ (List.mem_of_getElem? (i := 22) rfl)), rfl⟩
theorem zp_X1_48 : zPut RX1 48 3 8 .int := ⟨RX1, TX1, 10, "SignCategories$Level", tyX1, rfl, wi_X1, by decide, (wr_13 _ (List.mem_of_getElem? (i := 22) rfl)), rfl, tyX1_ok, nmX1, rfl, by decide +kernel⟩
theorem zf_X1_51 : zFld RX1 51 3 9 := ⟨RX1, TX1, 10, "SignCategories$Level", rfl, wi_X1, by decide, (wr_13 _ (List.mem_of_getElem? (i := 23) rfl)), rfl⟩
theorem zp_X1_51 : zPut RX1 51 3 9 .int := ⟨RX1, TX1, 10, "SignCategories$Level", tyX1, rfl, wi_X1, by decide, (wr_13 _ (List.mem_of_getElem? (i := 23) rfl)), rfl, tyX1_ok, nmX1, rfl, by decide +kernel⟩
theorem zf_X3_29 : zFld RX3 29 5 4 := ⟨RX3, TX3, 5, "SignCategories$Names", rfl, wi_X3, by decide, (wr_15 _ (List.mem_of_getElem? (i := 4) rfl)), rfl⟩
theorem zp_X3_29 : zPut RX3 29 5 4 .int := ⟨RX3, TX3, 5, "SignCategories$Names", tyX3, rfl, wi_X3, by decide, (wr_15 _ (List.mem_of_getElem? (i := 4) rfl)), rfl, tyX3_ok, nmX3, rfl, by decide +kernel⟩
theorem zf_X4_15 : zFld RX4 15 6 1 := ⟨RX4, TX4, 2, "SignCategories$Reports", rfl, wi_X4, by decide, (wr_15 _ (List.mem_of_getElem? (i := 21) rfl)), rfl⟩
theorem zp_X4_15 : zPut RX4 15 6 1 .int := ⟨RX4, TX4, 2, "SignCategories$Reports", tyX4, rfl, wi_X4, by decide, (wr_15 _ (List.mem_of_getElem? (i := 21) rfl)), rfl, tyX4_ok, nmX4, rfl, by decide +kernel⟩
theorem zf_X5_23 : zFld RX5 23 3 1 := ⟨RX1, TX1, 10, "SignCategories$Level", rfl, wi_X1, by decide, (wr_17 _ (List.mem_of_getElem? (i := 0) rfl)), rfl⟩
theorem zp_X5_23 : zPut RX5 23 3 1 .int := ⟨RX1, TX1, 10, "SignCategories$Level", tyX1, rfl, wi_X1, by decide, (wr_17 _ (List.mem_of_getElem? (i := 0) rfl)), rfl, tyX1_ok, nmX1, rfl, by decide +kernel⟩
theorem zf_X5_28 : zFld RX5 28 3 2 := ⟨RX1, TX1, 10, "SignCategories$Level", rfl, wi_X1, by decide, (wr_17 _ (List.mem_of_getElem? (i := 1) rfl)), rfl⟩
theorem zp_X5_28 : zPut RX5 28 3 2 .int := ⟨RX1, TX1, 10, "SignCategories$Level", tyX1, rfl, wi_X1, by decide, (wr_17 _ (List.mem_of_getElem? (i := 1) rfl)), rfl, tyX1_ok, nmX1, rfl, by decide +kernel⟩
theorem zf_X7_119 : zFld RX7 119 9 19 := ⟨RX7, TX7, 30, "SignCategoriesModel", rfl, wi_X7, by decide, (wr_17 _ (List.mem_of_getElem? (i := 22) rfl)), rfl⟩
theorem zp_X7_119 : zPut RX7 119 9 19 .int := ⟨RX7, TX7, 30, "SignCategoriesModel", tyX7, rfl, wi_X7, by decide, (wr_17 _ (List.mem_of_getElem? (i := 22) rfl)), rfl, tyX7_ok, nmX7, rfl, by decide +kernel⟩
theorem zf_X7_97 : zFld RX7 97 9 18 := ⟨RX7, TX7, 30, "SignCategoriesModel", rfl, wi_X7, by decide, (wr_18 _ (List.mem_of_getElem? (i := 7) rfl)), rfl⟩
theorem zp_X7_97 : zPut RX7 97 9 18 .int := ⟨RX7, TX7, 30, "SignCategoriesModel", tyX7, rfl, wi_X7, by decide, (wr_18 _ (List.mem_of_getElem? (i := 7) rfl)), rfl, tyX7_ok, nmX7, rfl, by decide +kernel⟩
theorem zf_X7_104 : zFld RX7 104 9 26 := ⟨RX7, TX7, 30, "SignCategoriesModel", rfl, wi_X7, by decide, (wr_18 _ (List.mem_of_getElem? (i := 12) rfl)), rfl⟩
theorem zp_X7_104 : zPut RX7 104 9 26 .int := ⟨RX7, TX7, 30, "SignCategoriesModel", tyX7, rfl, wi_X7, by decide, (wr_18 _ (List.mem_of_getElem? (i := 12) rfl)), rfl, tyX7_ok, nmX7, rfl, by decide +kernel⟩
theorem zf_X7_107 : zFld RX7 107 9 27 := ⟨RX7, TX7, 30, "SignCategoriesModel", rfl, wi_X7, by decide, (wr_18 _ (List.mem_of_getElem? (i := 13) rfl)), rfl⟩
theorem zp_X7_107 : zPut RX7 107 9 27 .int := ⟨RX7, TX7, 30, "SignCategoriesModel", tyX7, rfl, wi_X7, by decide, (wr_18 _ (List.mem_of_getElem? (i := 13) rfl)), rfl, tyX7_ok, nmX7, rfl, by decide +kernel⟩
theorem zf_X7_122 : zFld RX7 122 9 29 := ⟨RX7, TX7, 30, "SignCategoriesModel", rfl, wi_X7, by decide, (wr_19 _ (List.mem_of_getElem? (i := 8) rfl)), rfl⟩
theorem zp_X7_122 : zPut RX7 122 9 29 .int := ⟨RX7, TX7, 30, "SignCategoriesModel", tyX7, rfl, wi_X7, by decide, (wr_19 _ (List.mem_of_getElem? (i := 8) rfl)), rfl, tyX7_ok, nmX7, rfl, by decide +kernel⟩
theorem zf_X7_116 : zFld RX7 116 9 24 := ⟨RX7, TX7, 30, "SignCategoriesModel", rfl, wi_X7, by decide, (wr_19 _ (List.mem_of_getElem? (i := 17) rfl)), rfl⟩
theorem zp_X7_116 : zPut RX7 116 9 24 .int := ⟨RX7, TX7, 30, "SignCategoriesModel", tyX7, rfl, wi_X7, by decide, (wr_19 _ (List.mem_of_getElem? (i := 17) rfl)), rfl, tyX7_ok, nmX7, rfl, by decide +kernel⟩
theorem zf_X6_167 : zFld RX6 167 5 3 := ⟨RX3, TX3, 5, "SignCategories$Names", rfl, wi_X3, by decide, (wr_23 _ (List.mem_of_getElem? (i := 9) rfl)), rfl⟩
theorem zp_X6_167 : zPut RX6 167 5 3 .int := ⟨RX3, TX3, 5, "SignCategories$Names", tyX3, rfl, wi_X3, by decide, (wr_23 _ (List.mem_of_getElem? (i := 9) rfl)), rfl, tyX3_ok, nmX3, rfl, by decide +kernel⟩
theorem zf_X6_168 : zFld RX6 168 4 3 := ⟨RX2, TX2, 4, "SignCategories$Library", rfl, wi_X2, by decide, (wr_23 _ (List.mem_of_getElem? (i := 10) rfl)), rfl⟩
theorem zp_X6_168 : zPut RX6 168 4 3 .int := ⟨RX2, TX2, 4, "SignCategories$Library", tyX2, rfl, wi_X2, by decide, (wr_23 _ (List.mem_of_getElem? (i := 10) rfl)), rfl, tyX2_ok, nmX2, rfl, by decide +kernel⟩
theorem zf_X6_171 : zFld RX6 171 6 1 := ⟨RX4, TX4, 2, "SignCategories$Reports", rfl, wi_X4, by decide, (wr_23 _ (List.mem_of_getElem? (i := 11) rfl)), rfl⟩
theorem zp_X6_171 : zPut RX6 171 6 1 .int := ⟨RX4, TX4, 2, "SignCategories$Reports", tyX4, rfl, wi_X4, by decide, (wr_23 _ (List.mem_of_getElem? (i := 11) rfl)), rfl, tyX4_ok, nmX4, rfl, by decide +kernel⟩
theorem zl_X0_18 : Cond.methodLink RX0 18 yX0_isLatinLetter ∈ wsL_law0 := (wr_3 _ (List.mem_of_getElem? (i := 0) rfl))
theorem zl_X6_59 : Cond.methodLink RX6 59 yX6_isSign ∈ wsL_law0 := (wr_5 _ (List.mem_of_getElem? (i := 13) rfl))
theorem zl_X6_63 : Cond.methodLink RX6 63 yX0_setEverywhere ∈ wsL_law0 := (wr_5 _ (List.mem_of_getElem? (i := 16) rfl))
theorem zl_X0_22 : Cond.methodLink RX0 22 yX0_setHere ∈ wsL_law0 := (wr_5 _ (List.mem_of_getElem? (i := 21) rfl))
theorem zl_X6_67 : Cond.methodLink RX6 67 yX0_setHere ∈ wsL_law0 := (wr_6 _ (List.mem_of_getElem? (i := 1) rfl))
theorem zl_X7_75 : Cond.methodLink RX7 75 yX7_isSign ∈ wsL_law0 := (wr_6 _ (List.mem_of_getElem? (i := 8) rfl))
theorem zl_X6_70 : Cond.methodLink RX6 70 yX0_beginGroup ∈ wsL_law0 := (wr_6 _ (List.mem_of_getElem? (i := 16) rfl))
theorem zl_X0_30 : Cond.methodLink RX0 30 arraycopyName ∈ wsL_law0 := (wr_6 _ (List.mem_of_getElem? (i := 20) rfl))
theorem zl_X6_77 : Cond.methodLink RX6 77 yX0_endGroup ∈ wsL_law0 := (wr_7 _ (List.mem_of_getElem? (i := 0) rfl))
theorem zl_X6_80 : Cond.methodLink RX6 80 yX2_newFile ∈ wsL_law0 := (wr_8 _ (List.mem_of_getElem? (i := 4) rfl))
theorem zl_X6_84 : Cond.methodLink RX6 84 yX2_hasFile ∈ wsL_law0 := (wr_8 _ (List.mem_of_getElem? (i := 18) rfl))
theorem zl_X6_87 : Cond.methodLink RX6 87 yX2_newLine ∈ wsL_law0 := (wr_8 _ (List.mem_of_getElem? (i := 22) rfl))
theorem zl_X2_29 : Cond.methodLink RX2 29 yX2_lineCount ∈ wsL_law0 := (wr_9 _ (List.mem_of_getElem? (i := 2) rfl))
theorem zl_X2_25 : Cond.methodLink RX2 25 yX2_hasFile ∈ wsL_law0 := (wr_9 _ (List.mem_of_getElem? (i := 6) rfl))
theorem zl_X7_85 : Cond.methodLink RX7 85 yX7_isFile ∈ wsL_law0 := (wr_9 _ (List.mem_of_getElem? (i := 11) rfl))
theorem zl_X6_91 : Cond.methodLink RX6 91 yX2_append ∈ wsL_law0 := (wr_9 _ (List.mem_of_getElem? (i := 19) rfl))
theorem zl_X2_33 : Cond.methodLink RX2 33 yX2_putSign ∈ wsL_law0 := (wr_9 _ (List.mem_of_getElem? (i := 23) rfl))
theorem zl_X6_98 : Cond.methodLink RX6 98 yX1_start ∈ wsL_law0 := (wr_10 _ (List.mem_of_getElem? (i := 13) rfl))
theorem zl_X6_102 : Cond.methodLink RX6 102 yX6_topLevel ∈ wsL_law0 := (wr_11 _ (List.mem_of_getElem? (i := 7) rfl))
theorem zl_X6_110 : Cond.methodLink RX6 110 yX6_refusalAtOnce ∈ wsL_law0 := (wr_11 _ (List.mem_of_getElem? (i := 20) rfl))
theorem zl_X6_185 : Cond.methodLink RX6 185 yX5_isFull ∈ wsL_law0 := (wr_12 _ (List.mem_of_getElem? (i := 0) rfl))
theorem zl_X6_114 : Cond.methodLink RX6 114 yX6_levelWithLine ∈ wsL_law0 := (wr_12 _ (List.mem_of_getElem? (i := 5) rfl))
theorem zl_X6_194 : Cond.methodLink RX6 194 yX2_lineCount ∈ wsL_law0 := (wr_12 _ (List.mem_of_getElem? (i := 13) rfl))
theorem zl_X6_197 : Cond.methodLink RX6 197 yX1_beginLine ∈ wsL_law0 := (wr_12 _ (List.mem_of_getElem? (i := 14) rfl))
theorem zl_X1_29 : Cond.methodLink RX1 29 yX2_copyLine ∈ wsL_law0 := (wr_12 _ (List.mem_of_getElem? (i := 21) rfl))
theorem zl_X2_37 : Cond.methodLink RX2 37 yX2_signAt ∈ wsL_law0 := (wr_13 _ (List.mem_of_getElem? (i := 1) rfl))
theorem zl_X6_117 : Cond.methodLink RX6 117 yX1_left ∈ wsL_law0 := (wr_13 _ (List.mem_of_getElem? (i := 5) rfl))
theorem zl_X6_120 : Cond.methodLink RX6 120 yX6_readToken ∈ wsL_law0 := (wr_13 _ (List.mem_of_getElem? (i := 9) rfl))
theorem zl_X6_201 : Cond.methodLink RX6 201 yX1_look ∈ wsL_law0 := (wr_13 _ (List.mem_of_getElem? (i := 18) rfl))
theorem zl_X1_44 : Cond.methodLink RX1 44 yX1_standing ∈ wsL_law0 := (wr_14 _ (List.mem_of_getElem? (i := 0) rfl))
theorem zl_X1_54 : Cond.methodLink RX1 54 yX1_tellsAnother ∈ wsL_law0 := (wr_14 _ (List.mem_of_getElem? (i := 4) rfl))
theorem zl_X1_61 : Cond.methodLink RX1 61 yX0_at ∈ wsL_law0 := (wr_14 _ (List.mem_of_getElem? (i := 8) rfl))
theorem zl_X1_58 : Cond.methodLink RX1 58 yX1_tellAnother ∈ wsL_law0 := (wr_14 _ (List.mem_of_getElem? (i := 12) rfl))
theorem zl_X1_66 : Cond.methodLink RX1 66 yX1_digit ∈ wsL_law0 := (wr_14 _ (List.mem_of_getElem? (i := 16) rfl))
theorem zl_X6_158 : Cond.methodLink RX6 158 yX0_at ∈ wsL_law0 := (wr_14 _ (List.mem_of_getElem? (i := 19) rfl))
theorem zl_X6_210 : Cond.methodLink RX6 210 yX6_readName ∈ wsL_law0 := (wr_14 _ (List.mem_of_getElem? (i := 20) rfl))
theorem zl_X6_228 : Cond.methodLink RX6 228 yX3_beginDraft ∈ wsL_law0 := (wr_15 _ (List.mem_of_getElem? (i := 0) rfl))
theorem zl_X6_231 : Cond.methodLink RX6 231 yX6_draftLetters ∈ wsL_law0 := (wr_15 _ (List.mem_of_getElem? (i := 5) rfl))
theorem zl_X6_235 : Cond.methodLink RX6 235 yX3_growDraft ∈ wsL_law0 := (wr_15 _ (List.mem_of_getElem? (i := 9) rfl))
theorem zl_X6_238 : Cond.methodLink RX6 238 yX3_draftIsLong ∈ wsL_law0 := (wr_15 _ (List.mem_of_getElem? (i := 13) rfl))
theorem zl_X6_224 : Cond.methodLink RX6 224 yX4_report ∈ wsL_law0 := (wr_15 _ (List.mem_of_getElem? (i := 17) rfl))
theorem zl_X6_241 : Cond.methodLink RX6 241 yX3_numberOfDraft ∈ wsL_law0 := (wr_15 _ (List.mem_of_getElem? (i := 22) rfl))
theorem zl_X3_39 : Cond.methodLink RX3 39 arraycopyName ∈ wsL_law0 := (wr_16 _ (List.mem_of_getElem? (i := 2) rfl))
theorem zl_X3_32 : Cond.methodLink RX3 32 yX3_isDraft ∈ wsL_law0 := (wr_16 _ (List.mem_of_getElem? (i := 3) rfl))
theorem zl_X3_25 : Cond.methodLink RX3 25 yX3_has ∈ wsL_law0 := (wr_16 _ (List.mem_of_getElem? (i := 7) rfl))
theorem zl_X3_35 : Cond.methodLink RX3 35 yX3_draftLength ∈ wsL_law0 := (wr_16 _ (List.mem_of_getElem? (i := 11) rfl))
theorem zl_X3_45 : Cond.methodLink RX3 45 yX3_draftIsLong ∈ wsL_law0 := (wr_16 _ (List.mem_of_getElem? (i := 15) rfl))
theorem zl_X3_49 : Cond.methodLink RX3 49 yX3_sign ∈ wsL_law0 := (wr_16 _ (List.mem_of_getElem? (i := 16) rfl))
theorem zl_X6_136 : Cond.methodLink RX6 136 yX5_put ∈ wsL_law0 := (wr_16 _ (List.mem_of_getElem? (i := 20) rfl))
theorem zl_X5_19 : Cond.methodLink RX5 19 yX5_isFull ∈ wsL_law0 := (wr_17 _ (List.mem_of_getElem? (i := 2) rfl))
theorem zl_X6_214 : Cond.methodLink RX6 214 yX6_readLineEnd ∈ wsL_law0 := (wr_17 _ (List.mem_of_getElem? (i := 3) rfl))
theorem zl_X6_217 : Cond.methodLink RX6 217 yX6_readBlank ∈ wsL_law0 := (wr_17 _ (List.mem_of_getElem? (i := 7) rfl))
theorem zl_X6_220 : Cond.methodLink RX6 220 yX6_readActive ∈ wsL_law0 := (wr_17 _ (List.mem_of_getElem? (i := 11) rfl))
theorem zl_X6_124 : Cond.methodLink RX6 124 yX6_dropUsedLine ∈ wsL_law0 := (wr_17 _ (List.mem_of_getElem? (i := 15) rfl))
theorem zl_X7_146 : Cond.methodLink RX7 146 yX7_hasLine ∈ wsL_law0 := (wr_17 _ (List.mem_of_getElem? (i := 23) rfl))
theorem zl_X7_93 : Cond.methodLink RX7 93 yX7_begin ∈ wsL_law0 := (wr_18 _ (List.mem_of_getElem? (i := 3) rfl))
theorem zl_X7_150 : Cond.methodLink RX7 150 yX7_give ∈ wsL_law0 := (wr_18 _ (List.mem_of_getElem? (i := 8) rfl))
theorem zl_X7_125 : Cond.methodLink RX7 125 yX7_see ∈ wsL_law0 := (wr_18 _ (List.mem_of_getElem? (i := 14) rfl))
theorem zl_X7_100 : Cond.methodLink RX7 100 yX7_standing ∈ wsL_law0 := (wr_18 _ (List.mem_of_getElem? (i := 18) rfl))
theorem zl_X7_110 : Cond.methodLink RX7 110 yX7_isLow ∈ wsL_law0 := (wr_18 _ (List.mem_of_getElem? (i := 22) rfl))
theorem zl_X7_113 : Cond.methodLink RX7 113 yX7_digit ∈ wsL_law0 := (wr_19 _ (List.mem_of_getElem? (i := 1) rfl))
theorem zl_X7_135 : Cond.methodLink RX7 135 yX7_readWord ∈ wsL_law0 := (wr_19 _ (List.mem_of_getElem? (i := 4) rfl))
theorem zl_X7_129 : Cond.methodLink RX7 129 yX7_addToWord ∈ wsL_law0 := (wr_19 _ (List.mem_of_getElem? (i := 9) rfl))
theorem zl_X7_132 : Cond.methodLink RX7 132 yX7_tell ∈ wsL_law0 := (wr_19 _ (List.mem_of_getElem? (i := 13) rfl))
theorem zl_X7_138 : Cond.methodLink RX7 138 yX7_nameOfWord ∈ wsL_law0 := (wr_19 _ (List.mem_of_getElem? (i := 18) rfl))
theorem zl_X7_142 : Cond.methodLink RX7 142 yX7_keep ∈ wsL_law0 := (wr_19 _ (List.mem_of_getElem? (i := 22) rfl))
theorem zl_X6_130 : Cond.methodLink RX6 130 yX1_standing ∈ wsL_law0 := (wr_20 _ (List.mem_of_getElem? (i := 6) rfl))
theorem zl_X6_140 : Cond.methodLink RX6 140 yX5_has ∈ wsL_law0 := (wr_20 _ (List.mem_of_getElem? (i := 23) rfl))
theorem zl_X6_150 : Cond.methodLink RX6 150 yX5_part ∈ wsL_law0 := (wr_21 _ (List.mem_of_getElem? (i := 3) rfl))
theorem zl_X5_31 : Cond.methodLink RX5 31 yX5_has ∈ wsL_law0 := (wr_21 _ (List.mem_of_getElem? (i := 7) rfl))
theorem zl_X6_154 : Cond.methodLink RX6 154 yX3_sign ∈ wsL_law0 := (wr_21 _ (List.mem_of_getElem? (i := 20) rfl))
theorem zl_X6_157 : Cond.methodLink RX6 157 yX4_part ∈ wsL_law0 := (wr_22 _ (List.mem_of_getElem? (i := 5) rfl))
theorem zl_X6_172 : Cond.methodLink RX6 172 yX6_signsLeft ∈ wsL_law0 := (wr_23 _ (List.mem_of_getElem? (i := 12) rfl))
theorem zl_X6_178 : Cond.methodLink RX6 178 yX3_allDiffer ∈ wsL_law0 := (wr_24 _ (List.mem_of_getElem? (i := 0) rfl))
theorem zl_X3_53 : Cond.methodLink RX3 53 yX3_areSame ∈ wsL_law0 := (wr_24 _ (List.mem_of_getElem? (i := 4) rfl))
theorem zl_X6_181 : Cond.methodLink RX6 181 yX6_tokensHaveNames ∈ wsL_law0 := (wr_24 _ (List.mem_of_getElem? (i := 8) rfl))
theorem zl_X6_184 : Cond.methodLink RX6 184 yX3_has ∈ wsL_law0 := (wr_24 _ (List.mem_of_getElem? (i := 12) rfl))
theorem zn_native : Cond.native arraycopyName ∈ wsL_law0 := (wr_6 _ (List.mem_of_getElem? (i := 21) rfl))
theorem zn_static : Cond.static arraycopyName ∈ wsL_law0 := (wr_6 _ (List.mem_of_getElem? (i := 22) rfl))
theorem zn_initialized : Cond.initialized "java/lang/System" ∈ wsL_law0 := (wr_6 _ (List.mem_of_getElem? (i := 23) rfl))
theorem zk_X7_88 : Cond.constantLong RX7 88 (255) ∈ wsL_law0 := (wr_10 _ (List.mem_of_getElem? (i := 7) rfl))
theorem zk_X6_113 : Cond.constant RX6 113 (zI 1000000) ∈ wsL_law0 := (wr_11 _ (List.mem_of_getElem? (i := 19) rfl))
theorem zk_X0_isLatinLetter : zcalS mX0_isLatinLetter 1 := ⟨⟨⟨(wr_1 _ (List.mem_of_getElem? (i := 16) rfl)), (wr_3 _ (List.mem_of_getElem? (i := 2) rfl))⟩, ⟨by decide +kernel, by decide +kernel, by decide +kernel⟩, by decide +kernel, rfl⟩, (wr_3 _ (List.mem_of_getElem? (i := 1) rfl))⟩
theorem zk_X6_category : zcalV mX6_category RX6 3 := ⟨⟨⟨(wr_1 _ (List.mem_of_getElem? (i := 2) rfl)), (wr_5 _ (List.mem_of_getElem? (i := 12) rfl))⟩, ⟨by decide +kernel, by decide +kernel, by decide +kernel⟩, by decide +kernel, rfl⟩, (wr_5 _ (List.mem_of_getElem? (i := 10) rfl)), (wr_5 _ (List.mem_of_getElem? (i := 11) rfl))⟩
theorem zk_X6_isSign : zcalS mX6_isSign 1 := ⟨⟨⟨(wr_1 _ (List.mem_of_getElem? (i := 2) rfl)), (wr_5 _ (List.mem_of_getElem? (i := 15) rfl))⟩, ⟨by decide +kernel, by decide +kernel, by decide +kernel⟩, by decide +kernel, rfl⟩, (wr_5 _ (List.mem_of_getElem? (i := 14) rfl))⟩
theorem zk_X0_setEverywhere : zcalV mX0_setEverywhere RX0 2 := ⟨⟨⟨(wr_1 _ (List.mem_of_getElem? (i := 16) rfl)), (wr_5 _ (List.mem_of_getElem? (i := 19) rfl))⟩, ⟨by decide +kernel, by decide +kernel, by decide +kernel⟩, by decide +kernel, rfl⟩, (wr_5 _ (List.mem_of_getElem? (i := 17) rfl)), (wr_5 _ (List.mem_of_getElem? (i := 18) rfl))⟩
theorem zk_X0_setHere : zcalV mX0_setHere RX0 2 := ⟨⟨⟨(wr_1 _ (List.mem_of_getElem? (i := 16) rfl)), (wr_6 _ (List.mem_of_getElem? (i := 0) rfl))⟩, ⟨by decide +kernel, by decide +kernel, by decide +kernel⟩, by decide +kernel, rfl⟩, (wr_5 _ (List.mem_of_getElem? (i := 22) rfl)), (wr_5 _ (List.mem_of_getElem? (i := 23) rfl))⟩
theorem zk_X7_category : zcalV mX7_category RX7 3 := ⟨⟨⟨(wr_1 _ (List.mem_of_getElem? (i := 5) rfl)), (wr_6 _ (List.mem_of_getElem? (i := 5) rfl))⟩, ⟨by decide +kernel, by decide +kernel, by decide +kernel⟩, by decide +kernel, rfl⟩, (wr_6 _ (List.mem_of_getElem? (i := 3) rfl)), (wr_6 _ (List.mem_of_getElem? (i := 4) rfl))⟩
theorem zk_X7_isSign : zcalS mX7_isSign 1 := ⟨⟨⟨(wr_1 _ (List.mem_of_getElem? (i := 5) rfl)), (wr_6 _ (List.mem_of_getElem? (i := 10) rfl))⟩, ⟨by decide +kernel, by decide +kernel, by decide +kernel⟩, by decide +kernel, rfl⟩, (wr_6 _ (List.mem_of_getElem? (i := 9) rfl))⟩
theorem zk_X6_group : zcalV mX6_group RX6 1 := ⟨⟨⟨(wr_1 _ (List.mem_of_getElem? (i := 2) rfl)), (wr_6 _ (List.mem_of_getElem? (i := 14) rfl))⟩, ⟨by decide +kernel, by decide +kernel, by decide +kernel⟩, by decide +kernel, rfl⟩, (wr_6 _ (List.mem_of_getElem? (i := 12) rfl)), (wr_6 _ (List.mem_of_getElem? (i := 13) rfl))⟩
theorem zk_X0_beginGroup : zcalV mX0_beginGroup RX0 0 := ⟨⟨⟨(wr_1 _ (List.mem_of_getElem? (i := 16) rfl)), (wr_6 _ (List.mem_of_getElem? (i := 19) rfl))⟩, ⟨by decide +kernel, by decide +kernel, by decide +kernel⟩, by decide +kernel, rfl⟩, (wr_6 _ (List.mem_of_getElem? (i := 17) rfl)), (wr_6 _ (List.mem_of_getElem? (i := 18) rfl))⟩
theorem zk_X0_endGroup : zcalV mX0_endGroup RX0 0 := ⟨⟨⟨(wr_1 _ (List.mem_of_getElem? (i := 16) rfl)), (wr_7 _ (List.mem_of_getElem? (i := 3) rfl))⟩, ⟨by decide +kernel, by decide +kernel, by decide +kernel⟩, by decide +kernel, rfl⟩, (wr_7 _ (List.mem_of_getElem? (i := 1) rfl)), (wr_7 _ (List.mem_of_getElem? (i := 2) rfl))⟩
theorem zk_X7_group : zcalV mX7_group RX7 1 := ⟨⟨⟨(wr_1 _ (List.mem_of_getElem? (i := 5) rfl)), (wr_7 _ (List.mem_of_getElem? (i := 7) rfl))⟩, ⟨by decide +kernel, by decide +kernel, by decide +kernel⟩, by decide +kernel, rfl⟩, (wr_7 _ (List.mem_of_getElem? (i := 5) rfl)), (wr_7 _ (List.mem_of_getElem? (i := 6) rfl))⟩
theorem zk_X6_endSign : zcalV mX6_endSign RX6 1 := ⟨⟨⟨(wr_1 _ (List.mem_of_getElem? (i := 2) rfl)), (wr_7 _ (List.mem_of_getElem? (i := 11) rfl))⟩, ⟨by decide +kernel, by decide +kernel, by decide +kernel⟩, by decide +kernel, rfl⟩, (wr_7 _ (List.mem_of_getElem? (i := 9) rfl)), (wr_7 _ (List.mem_of_getElem? (i := 10) rfl))⟩
theorem zk_X7_endSign : zcalV mX7_endSign RX7 1 := ⟨⟨⟨(wr_1 _ (List.mem_of_getElem? (i := 5) rfl)), (wr_7 _ (List.mem_of_getElem? (i := 15) rfl))⟩, ⟨by decide +kernel, by decide +kernel, by decide +kernel⟩, by decide +kernel, rfl⟩, (wr_7 _ (List.mem_of_getElem? (i := 13) rfl)), (wr_7 _ (List.mem_of_getElem? (i := 14) rfl))⟩
theorem zk_X6_meaning : zcalV mX6_meaning RX6 2 := ⟨⟨⟨(wr_1 _ (List.mem_of_getElem? (i := 2) rfl)), (wr_7 _ (List.mem_of_getElem? (i := 19) rfl))⟩, ⟨by decide +kernel, by decide +kernel, by decide +kernel⟩, by decide +kernel, rfl⟩, (wr_7 _ (List.mem_of_getElem? (i := 17) rfl)), (wr_7 _ (List.mem_of_getElem? (i := 18) rfl))⟩
theorem zk_X7_meaning : zcalV mX7_meaning RX7 2 := ⟨⟨⟨(wr_1 _ (List.mem_of_getElem? (i := 5) rfl)), (wr_7 _ (List.mem_of_getElem? (i := 23) rfl))⟩, ⟨by decide +kernel, by decide +kernel, by decide +kernel⟩, by decide +kernel, rfl⟩, (wr_7 _ (List.mem_of_getElem? (i := 21) rfl)), (wr_7 _ (List.mem_of_getElem? (i := 22) rfl))⟩
theorem zk_X6_file : zcalV mX6_file RX6 0 := ⟨⟨⟨(wr_1 _ (List.mem_of_getElem? (i := 2) rfl)), (wr_8 _ (List.mem_of_getElem? (i := 3) rfl))⟩, ⟨by decide +kernel, by decide +kernel, by decide +kernel⟩, by decide +kernel, rfl⟩, (wr_8 _ (List.mem_of_getElem? (i := 1) rfl)), (wr_8 _ (List.mem_of_getElem? (i := 2) rfl))⟩
theorem zk_X2_newFile : zcalV mX2_newFile RX2 0 := ⟨⟨⟨(wr_1 _ (List.mem_of_getElem? (i := 22) rfl)), (wr_8 _ (List.mem_of_getElem? (i := 7) rfl))⟩, ⟨by decide +kernel, by decide +kernel, by decide +kernel⟩, by decide +kernel, rfl⟩, (wr_8 _ (List.mem_of_getElem? (i := 5) rfl)), (wr_8 _ (List.mem_of_getElem? (i := 6) rfl))⟩
theorem zk_X7_file : zcalV mX7_file RX7 0 := ⟨⟨⟨(wr_1 _ (List.mem_of_getElem? (i := 5) rfl)), (wr_8 _ (List.mem_of_getElem? (i := 12) rfl))⟩, ⟨by decide +kernel, by decide +kernel, by decide +kernel⟩, by decide +kernel, rfl⟩, (wr_8 _ (List.mem_of_getElem? (i := 10) rfl)), (wr_8 _ (List.mem_of_getElem? (i := 11) rfl))⟩
theorem zk_X6_line : zcalV mX6_line RX6 1 := ⟨⟨⟨(wr_1 _ (List.mem_of_getElem? (i := 2) rfl)), (wr_8 _ (List.mem_of_getElem? (i := 17) rfl))⟩, ⟨by decide +kernel, by decide +kernel, by decide +kernel⟩, by decide +kernel, rfl⟩, (wr_8 _ (List.mem_of_getElem? (i := 15) rfl)), (wr_8 _ (List.mem_of_getElem? (i := 16) rfl))⟩
theorem zk_X2_hasFile : zcalV mX2_hasFile RX2 1 := ⟨⟨⟨(wr_1 _ (List.mem_of_getElem? (i := 22) rfl)), (wr_8 _ (List.mem_of_getElem? (i := 21) rfl))⟩, ⟨by decide +kernel, by decide +kernel, by decide +kernel⟩, by decide +kernel, rfl⟩, (wr_8 _ (List.mem_of_getElem? (i := 19) rfl)), (wr_8 _ (List.mem_of_getElem? (i := 20) rfl))⟩
theorem zk_X2_newLine : zcalV mX2_newLine RX2 1 := ⟨⟨⟨(wr_1 _ (List.mem_of_getElem? (i := 22) rfl)), (wr_9 _ (List.mem_of_getElem? (i := 1) rfl))⟩, ⟨by decide +kernel, by decide +kernel, by decide +kernel⟩, by decide +kernel, rfl⟩, (wr_8 _ (List.mem_of_getElem? (i := 23) rfl)), (wr_9 _ (List.mem_of_getElem? (i := 0) rfl))⟩
theorem zk_X2_lineCount : zcalV mX2_lineCount RX2 1 := ⟨⟨⟨(wr_1 _ (List.mem_of_getElem? (i := 22) rfl)), (wr_9 _ (List.mem_of_getElem? (i := 5) rfl))⟩, ⟨by decide +kernel, by decide +kernel, by decide +kernel⟩, by decide +kernel, rfl⟩, (wr_9 _ (List.mem_of_getElem? (i := 3) rfl)), (wr_9 _ (List.mem_of_getElem? (i := 4) rfl))⟩
theorem zk_X7_line : zcalV mX7_line RX7 1 := ⟨⟨⟨(wr_1 _ (List.mem_of_getElem? (i := 5) rfl)), (wr_9 _ (List.mem_of_getElem? (i := 10) rfl))⟩, ⟨by decide +kernel, by decide +kernel, by decide +kernel⟩, by decide +kernel, rfl⟩, (wr_9 _ (List.mem_of_getElem? (i := 8) rfl)), (wr_9 _ (List.mem_of_getElem? (i := 9) rfl))⟩
theorem zk_X7_isFile : zcalV mX7_isFile RX7 1 := ⟨⟨⟨(wr_1 _ (List.mem_of_getElem? (i := 5) rfl)), (wr_9 _ (List.mem_of_getElem? (i := 14) rfl))⟩, ⟨by decide +kernel, by decide +kernel, by decide +kernel⟩, by decide +kernel, rfl⟩, (wr_9 _ (List.mem_of_getElem? (i := 12) rfl)), (wr_9 _ (List.mem_of_getElem? (i := 13) rfl))⟩
theorem zk_X6_add : zcalV mX6_add RX6 3 := ⟨⟨⟨(wr_1 _ (List.mem_of_getElem? (i := 2) rfl)), (wr_9 _ (List.mem_of_getElem? (i := 18) rfl))⟩, ⟨by decide +kernel, by decide +kernel, by decide +kernel⟩, by decide +kernel, rfl⟩, (wr_9 _ (List.mem_of_getElem? (i := 16) rfl)), (wr_9 _ (List.mem_of_getElem? (i := 17) rfl))⟩
theorem zk_X2_append : zcalV mX2_append RX2 3 := ⟨⟨⟨(wr_1 _ (List.mem_of_getElem? (i := 22) rfl)), (wr_9 _ (List.mem_of_getElem? (i := 22) rfl))⟩, ⟨by decide +kernel, by decide +kernel, by decide +kernel⟩, by decide +kernel, rfl⟩, (wr_9 _ (List.mem_of_getElem? (i := 20) rfl)), (wr_9 _ (List.mem_of_getElem? (i := 21) rfl))⟩
theorem zk_X2_putSign : zcalV mX2_putSign RX2 2 := ⟨⟨⟨(wr_1 _ (List.mem_of_getElem? (i := 22) rfl)), (wr_10 _ (List.mem_of_getElem? (i := 2) rfl))⟩, ⟨by decide +kernel, by decide +kernel, by decide +kernel⟩, by decide +kernel, rfl⟩, (wr_10 _ (List.mem_of_getElem? (i := 0) rfl)), (wr_10 _ (List.mem_of_getElem? (i := 1) rfl))⟩
theorem zk_X7_add : zcalV mX7_add RX7 3 := ⟨⟨⟨(wr_1 _ (List.mem_of_getElem? (i := 5) rfl)), (wr_10 _ (List.mem_of_getElem? (i := 6) rfl))⟩, ⟨by decide +kernel, by decide +kernel, by decide +kernel⟩, by decide +kernel, rfl⟩, (wr_10 _ (List.mem_of_getElem? (i := 4) rfl)), (wr_10 _ (List.mem_of_getElem? (i := 5) rfl))⟩
theorem zk_X6_open : zcalV mX6_open RX6 1 := ⟨⟨⟨(wr_1 _ (List.mem_of_getElem? (i := 2) rfl)), (wr_10 _ (List.mem_of_getElem? (i := 11) rfl))⟩, ⟨by decide +kernel, by decide +kernel, by decide +kernel⟩, by decide +kernel, rfl⟩, (wr_10 _ (List.mem_of_getElem? (i := 9) rfl)), (wr_10 _ (List.mem_of_getElem? (i := 10) rfl))⟩
theorem zk_X1_start : zcalV mX1_start RX1 1 := ⟨⟨⟨(wr_2 _ (List.mem_of_getElem? (i := 3) rfl)), (wr_10 _ (List.mem_of_getElem? (i := 16) rfl))⟩, ⟨by decide +kernel, by decide +kernel, by decide +kernel⟩, by decide +kernel, rfl⟩, (wr_10 _ (List.mem_of_getElem? (i := 14) rfl)), (wr_10 _ (List.mem_of_getElem? (i := 15) rfl))⟩
theorem zk_X7_open : zcalV mX7_open RX7 1 := ⟨⟨⟨(wr_1 _ (List.mem_of_getElem? (i := 5) rfl)), (wr_11 _ (List.mem_of_getElem? (i := 0) rfl))⟩, ⟨by decide +kernel, by decide +kernel, by decide +kernel⟩, by decide +kernel, rfl⟩, (wr_10 _ (List.mem_of_getElem? (i := 22) rfl)), (wr_10 _ (List.mem_of_getElem? (i := 23) rfl))⟩
theorem zk_X6_close : zcalV mX6_close RX6 0 := ⟨⟨⟨(wr_1 _ (List.mem_of_getElem? (i := 2) rfl)), (wr_11 _ (List.mem_of_getElem? (i := 5) rfl))⟩, ⟨by decide +kernel, by decide +kernel, by decide +kernel⟩, by decide +kernel, rfl⟩, (wr_11 _ (List.mem_of_getElem? (i := 3) rfl)), (wr_11 _ (List.mem_of_getElem? (i := 4) rfl))⟩
theorem zk_X6_topLevel : zcalV mX6_topLevel RX6 0 := ⟨⟨⟨(wr_1 _ (List.mem_of_getElem? (i := 2) rfl)), (wr_11 _ (List.mem_of_getElem? (i := 10) rfl))⟩, ⟨by decide +kernel, by decide +kernel, by decide +kernel⟩, by decide +kernel, rfl⟩, (wr_11 _ (List.mem_of_getElem? (i := 8) rfl)), (wr_11 _ (List.mem_of_getElem? (i := 9) rfl))⟩
theorem zk_X7_close : zcalV mX7_close RX7 0 := ⟨⟨⟨(wr_1 _ (List.mem_of_getElem? (i := 5) rfl)), (wr_11 _ (List.mem_of_getElem? (i := 14) rfl))⟩, ⟨by decide +kernel, by decide +kernel, by decide +kernel⟩, by decide +kernel, rfl⟩, (wr_11 _ (List.mem_of_getElem? (i := 12) rfl)), (wr_11 _ (List.mem_of_getElem? (i := 13) rfl))⟩
theorem zk_X6_next : zcalV mX6_next RX6 0 := ⟨⟨⟨(wr_1 _ (List.mem_of_getElem? (i := 2) rfl)), (wr_11 _ (List.mem_of_getElem? (i := 18) rfl))⟩, ⟨by decide +kernel, by decide +kernel, by decide +kernel⟩, by decide +kernel, rfl⟩, (wr_11 _ (List.mem_of_getElem? (i := 16) rfl)), (wr_11 _ (List.mem_of_getElem? (i := 17) rfl))⟩
theorem zk_X6_refusalAtOnce : zcalV mX6_refusalAtOnce RX6 0 := ⟨⟨⟨(wr_1 _ (List.mem_of_getElem? (i := 2) rfl)), (wr_11 _ (List.mem_of_getElem? (i := 23) rfl))⟩, ⟨by decide +kernel, by decide +kernel, by decide +kernel⟩, by decide +kernel, rfl⟩, (wr_11 _ (List.mem_of_getElem? (i := 21) rfl)), (wr_11 _ (List.mem_of_getElem? (i := 22) rfl))⟩
theorem zk_X5_isFull : zcalV mX5_isFull RX5 0 := ⟨⟨⟨(wr_2 _ (List.mem_of_getElem? (i := 10) rfl)), (wr_12 _ (List.mem_of_getElem? (i := 3) rfl))⟩, ⟨by decide +kernel, by decide +kernel, by decide +kernel⟩, by decide +kernel, rfl⟩, (wr_12 _ (List.mem_of_getElem? (i := 1) rfl)), (wr_12 _ (List.mem_of_getElem? (i := 2) rfl))⟩
theorem zk_X6_levelWithLine : zcalV mX6_levelWithLine RX6 0 := ⟨⟨⟨(wr_1 _ (List.mem_of_getElem? (i := 2) rfl)), (wr_12 _ (List.mem_of_getElem? (i := 8) rfl))⟩, ⟨by decide +kernel, by decide +kernel, by decide +kernel⟩, by decide +kernel, rfl⟩, (wr_12 _ (List.mem_of_getElem? (i := 6) rfl)), (wr_12 _ (List.mem_of_getElem? (i := 7) rfl))⟩
theorem zk_X1_beginLine : zcalV mX1_beginLine RX1 2 := ⟨⟨⟨(wr_2 _ (List.mem_of_getElem? (i := 3) rfl)), (wr_12 _ (List.mem_of_getElem? (i := 17) rfl))⟩, ⟨by decide +kernel, by decide +kernel, by decide +kernel⟩, by decide +kernel, rfl⟩, (wr_12 _ (List.mem_of_getElem? (i := 15) rfl)), (wr_12 _ (List.mem_of_getElem? (i := 16) rfl))⟩
theorem zk_X2_copyLine : zcalV mX2_copyLine RX2 3 := ⟨⟨⟨(wr_1 _ (List.mem_of_getElem? (i := 22) rfl)), (wr_13 _ (List.mem_of_getElem? (i := 0) rfl))⟩, ⟨by decide +kernel, by decide +kernel, by decide +kernel⟩, by decide +kernel, rfl⟩, (wr_12 _ (List.mem_of_getElem? (i := 22) rfl)), (wr_12 _ (List.mem_of_getElem? (i := 23) rfl))⟩
theorem zk_X2_signAt : zcalV mX2_signAt RX2 1 := ⟨⟨⟨(wr_1 _ (List.mem_of_getElem? (i := 22) rfl)), (wr_13 _ (List.mem_of_getElem? (i := 4) rfl))⟩, ⟨by decide +kernel, by decide +kernel, by decide +kernel⟩, by decide +kernel, rfl⟩, (wr_13 _ (List.mem_of_getElem? (i := 2) rfl)), (wr_13 _ (List.mem_of_getElem? (i := 3) rfl))⟩
theorem zk_X1_left : zcalV mX1_left RX1 0 := ⟨⟨⟨(wr_2 _ (List.mem_of_getElem? (i := 3) rfl)), (wr_13 _ (List.mem_of_getElem? (i := 8) rfl))⟩, ⟨by decide +kernel, by decide +kernel, by decide +kernel⟩, by decide +kernel, rfl⟩, (wr_13 _ (List.mem_of_getElem? (i := 6) rfl)), (wr_13 _ (List.mem_of_getElem? (i := 7) rfl))⟩
theorem zk_X6_readToken : zcalV mX6_readToken RX6 1 := ⟨⟨⟨(wr_1 _ (List.mem_of_getElem? (i := 2) rfl)), (wr_13 _ (List.mem_of_getElem? (i := 12) rfl))⟩, ⟨by decide +kernel, by decide +kernel, by decide +kernel⟩, by decide +kernel, rfl⟩, (wr_13 _ (List.mem_of_getElem? (i := 10) rfl)), (wr_13 _ (List.mem_of_getElem? (i := 11) rfl))⟩
theorem zk_X1_look : zcalV mX1_look RX1 2 := ⟨⟨⟨(wr_2 _ (List.mem_of_getElem? (i := 3) rfl)), (wr_13 _ (List.mem_of_getElem? (i := 21) rfl))⟩, ⟨by decide +kernel, by decide +kernel, by decide +kernel⟩, by decide +kernel, rfl⟩, (wr_13 _ (List.mem_of_getElem? (i := 19) rfl)), (wr_13 _ (List.mem_of_getElem? (i := 20) rfl))⟩
theorem zk_X1_standing : zcalV mX1_standing RX1 1 := ⟨⟨⟨(wr_2 _ (List.mem_of_getElem? (i := 3) rfl)), (wr_14 _ (List.mem_of_getElem? (i := 3) rfl))⟩, ⟨by decide +kernel, by decide +kernel, by decide +kernel⟩, by decide +kernel, rfl⟩, (wr_14 _ (List.mem_of_getElem? (i := 1) rfl)), (wr_14 _ (List.mem_of_getElem? (i := 2) rfl))⟩
theorem zk_X1_tellsAnother : zcalV mX1_tellsAnother RX1 1 := ⟨⟨⟨(wr_2 _ (List.mem_of_getElem? (i := 3) rfl)), (wr_14 _ (List.mem_of_getElem? (i := 7) rfl))⟩, ⟨by decide +kernel, by decide +kernel, by decide +kernel⟩, by decide +kernel, rfl⟩, (wr_14 _ (List.mem_of_getElem? (i := 5) rfl)), (wr_14 _ (List.mem_of_getElem? (i := 6) rfl))⟩
theorem zk_X0_at : zcalV mX0_at RX0 1 := ⟨⟨⟨(wr_1 _ (List.mem_of_getElem? (i := 16) rfl)), (wr_14 _ (List.mem_of_getElem? (i := 11) rfl))⟩, ⟨by decide +kernel, by decide +kernel, by decide +kernel⟩, by decide +kernel, rfl⟩, (wr_14 _ (List.mem_of_getElem? (i := 9) rfl)), (wr_14 _ (List.mem_of_getElem? (i := 10) rfl))⟩
theorem zk_X1_tellAnother : zcalV mX1_tellAnother RX1 0 := ⟨⟨⟨(wr_2 _ (List.mem_of_getElem? (i := 3) rfl)), (wr_14 _ (List.mem_of_getElem? (i := 15) rfl))⟩, ⟨by decide +kernel, by decide +kernel, by decide +kernel⟩, by decide +kernel, rfl⟩, (wr_14 _ (List.mem_of_getElem? (i := 13) rfl)), (wr_14 _ (List.mem_of_getElem? (i := 14) rfl))⟩
theorem zk_X1_digit : zcalS mX1_digit 1 := ⟨⟨⟨(wr_2 _ (List.mem_of_getElem? (i := 3) rfl)), (wr_14 _ (List.mem_of_getElem? (i := 18) rfl))⟩, ⟨by decide +kernel, by decide +kernel, by decide +kernel⟩, by decide +kernel, rfl⟩, (wr_14 _ (List.mem_of_getElem? (i := 17) rfl))⟩
theorem zk_X6_readName : zcalV mX6_readName RX6 2 := ⟨⟨⟨(wr_1 _ (List.mem_of_getElem? (i := 2) rfl)), (wr_14 _ (List.mem_of_getElem? (i := 23) rfl))⟩, ⟨by decide +kernel, by decide +kernel, by decide +kernel⟩, by decide +kernel, rfl⟩, (wr_14 _ (List.mem_of_getElem? (i := 21) rfl)), (wr_14 _ (List.mem_of_getElem? (i := 22) rfl))⟩
theorem zk_X3_beginDraft : zcalV mX3_beginDraft RX3 0 := ⟨⟨⟨(wr_2 _ (List.mem_of_getElem? (i := 6) rfl)), (wr_15 _ (List.mem_of_getElem? (i := 3) rfl))⟩, ⟨by decide +kernel, by decide +kernel, by decide +kernel⟩, by decide +kernel, rfl⟩, (wr_15 _ (List.mem_of_getElem? (i := 1) rfl)), (wr_15 _ (List.mem_of_getElem? (i := 2) rfl))⟩
theorem zk_X6_draftLetters : zcalV mX6_draftLetters RX6 1 := ⟨⟨⟨(wr_1 _ (List.mem_of_getElem? (i := 2) rfl)), (wr_15 _ (List.mem_of_getElem? (i := 8) rfl))⟩, ⟨by decide +kernel, by decide +kernel, by decide +kernel⟩, by decide +kernel, rfl⟩, (wr_15 _ (List.mem_of_getElem? (i := 6) rfl)), (wr_15 _ (List.mem_of_getElem? (i := 7) rfl))⟩
theorem zk_X3_growDraft : zcalV mX3_growDraft RX3 1 := ⟨⟨⟨(wr_2 _ (List.mem_of_getElem? (i := 6) rfl)), (wr_15 _ (List.mem_of_getElem? (i := 12) rfl))⟩, ⟨by decide +kernel, by decide +kernel, by decide +kernel⟩, by decide +kernel, rfl⟩, (wr_15 _ (List.mem_of_getElem? (i := 10) rfl)), (wr_15 _ (List.mem_of_getElem? (i := 11) rfl))⟩
theorem zk_X3_draftIsLong : zcalV mX3_draftIsLong RX3 0 := ⟨⟨⟨(wr_2 _ (List.mem_of_getElem? (i := 6) rfl)), (wr_15 _ (List.mem_of_getElem? (i := 16) rfl))⟩, ⟨by decide +kernel, by decide +kernel, by decide +kernel⟩, by decide +kernel, rfl⟩, (wr_15 _ (List.mem_of_getElem? (i := 14) rfl)), (wr_15 _ (List.mem_of_getElem? (i := 15) rfl))⟩
theorem zk_X4_report : zcalV mX4_report RX4 3 := ⟨⟨⟨(wr_2 _ (List.mem_of_getElem? (i := 14) rfl)), (wr_15 _ (List.mem_of_getElem? (i := 20) rfl))⟩, ⟨by decide +kernel, by decide +kernel, by decide +kernel⟩, by decide +kernel, rfl⟩, (wr_15 _ (List.mem_of_getElem? (i := 18) rfl)), (wr_15 _ (List.mem_of_getElem? (i := 19) rfl))⟩
theorem zk_X3_numberOfDraft : zcalV mX3_numberOfDraft RX3 0 := ⟨⟨⟨(wr_2 _ (List.mem_of_getElem? (i := 6) rfl)), (wr_16 _ (List.mem_of_getElem? (i := 1) rfl))⟩, ⟨by decide +kernel, by decide +kernel, by decide +kernel⟩, by decide +kernel, rfl⟩, (wr_15 _ (List.mem_of_getElem? (i := 23) rfl)), (wr_16 _ (List.mem_of_getElem? (i := 0) rfl))⟩
theorem zk_X3_isDraft : zcalV mX3_isDraft RX3 1 := ⟨⟨⟨(wr_2 _ (List.mem_of_getElem? (i := 6) rfl)), (wr_16 _ (List.mem_of_getElem? (i := 6) rfl))⟩, ⟨by decide +kernel, by decide +kernel, by decide +kernel⟩, by decide +kernel, rfl⟩, (wr_16 _ (List.mem_of_getElem? (i := 4) rfl)), (wr_16 _ (List.mem_of_getElem? (i := 5) rfl))⟩
theorem zk_X3_has : zcalV mX3_has RX3 1 := ⟨⟨⟨(wr_2 _ (List.mem_of_getElem? (i := 6) rfl)), (wr_16 _ (List.mem_of_getElem? (i := 10) rfl))⟩, ⟨by decide +kernel, by decide +kernel, by decide +kernel⟩, by decide +kernel, rfl⟩, (wr_16 _ (List.mem_of_getElem? (i := 8) rfl)), (wr_16 _ (List.mem_of_getElem? (i := 9) rfl))⟩
theorem zk_X3_draftLength : zcalV mX3_draftLength RX3 0 := ⟨⟨⟨(wr_2 _ (List.mem_of_getElem? (i := 6) rfl)), (wr_16 _ (List.mem_of_getElem? (i := 14) rfl))⟩, ⟨by decide +kernel, by decide +kernel, by decide +kernel⟩, by decide +kernel, rfl⟩, (wr_16 _ (List.mem_of_getElem? (i := 12) rfl)), (wr_16 _ (List.mem_of_getElem? (i := 13) rfl))⟩
theorem zk_X3_sign : zcalV mX3_sign RX3 2 := ⟨⟨⟨(wr_2 _ (List.mem_of_getElem? (i := 6) rfl)), (wr_16 _ (List.mem_of_getElem? (i := 19) rfl))⟩, ⟨by decide +kernel, by decide +kernel, by decide +kernel⟩, by decide +kernel, rfl⟩, (wr_16 _ (List.mem_of_getElem? (i := 17) rfl)), (wr_16 _ (List.mem_of_getElem? (i := 18) rfl))⟩
theorem zk_X5_put : zcalV mX5_put RX5 5 := ⟨⟨⟨(wr_2 _ (List.mem_of_getElem? (i := 10) rfl)), (wr_16 _ (List.mem_of_getElem? (i := 23) rfl))⟩, ⟨by decide +kernel, by decide +kernel, by decide +kernel⟩, by decide +kernel, rfl⟩, (wr_16 _ (List.mem_of_getElem? (i := 21) rfl)), (wr_16 _ (List.mem_of_getElem? (i := 22) rfl))⟩
theorem zk_X6_readLineEnd : zcalV mX6_readLineEnd RX6 2 := ⟨⟨⟨(wr_1 _ (List.mem_of_getElem? (i := 2) rfl)), (wr_17 _ (List.mem_of_getElem? (i := 6) rfl))⟩, ⟨by decide +kernel, by decide +kernel, by decide +kernel⟩, by decide +kernel, rfl⟩, (wr_17 _ (List.mem_of_getElem? (i := 4) rfl)), (wr_17 _ (List.mem_of_getElem? (i := 5) rfl))⟩
theorem zk_X6_readBlank : zcalV mX6_readBlank RX6 2 := ⟨⟨⟨(wr_1 _ (List.mem_of_getElem? (i := 2) rfl)), (wr_17 _ (List.mem_of_getElem? (i := 10) rfl))⟩, ⟨by decide +kernel, by decide +kernel, by decide +kernel⟩, by decide +kernel, rfl⟩, (wr_17 _ (List.mem_of_getElem? (i := 8) rfl)), (wr_17 _ (List.mem_of_getElem? (i := 9) rfl))⟩
theorem zk_X6_readActive : zcalV mX6_readActive RX6 3 := ⟨⟨⟨(wr_1 _ (List.mem_of_getElem? (i := 2) rfl)), (wr_17 _ (List.mem_of_getElem? (i := 14) rfl))⟩, ⟨by decide +kernel, by decide +kernel, by decide +kernel⟩, by decide +kernel, rfl⟩, (wr_17 _ (List.mem_of_getElem? (i := 12) rfl)), (wr_17 _ (List.mem_of_getElem? (i := 13) rfl))⟩
theorem zk_X6_dropUsedLine : zcalS mX6_dropUsedLine 1 := ⟨⟨⟨(wr_1 _ (List.mem_of_getElem? (i := 2) rfl)), (wr_17 _ (List.mem_of_getElem? (i := 17) rfl))⟩, ⟨by decide +kernel, by decide +kernel, by decide +kernel⟩, by decide +kernel, rfl⟩, (wr_17 _ (List.mem_of_getElem? (i := 16) rfl))⟩
theorem zk_X7_next : zcalV mX7_next RX7 0 := ⟨⟨⟨(wr_1 _ (List.mem_of_getElem? (i := 5) rfl)), (wr_17 _ (List.mem_of_getElem? (i := 21) rfl))⟩, ⟨by decide +kernel, by decide +kernel, by decide +kernel⟩, by decide +kernel, rfl⟩, (wr_17 _ (List.mem_of_getElem? (i := 19) rfl)), (wr_17 _ (List.mem_of_getElem? (i := 20) rfl))⟩
theorem zk_X7_hasLine : zcalV mX7_hasLine RX7 0 := ⟨⟨⟨(wr_1 _ (List.mem_of_getElem? (i := 5) rfl)), (wr_18 _ (List.mem_of_getElem? (i := 2) rfl))⟩, ⟨by decide +kernel, by decide +kernel, by decide +kernel⟩, by decide +kernel, rfl⟩, (wr_18 _ (List.mem_of_getElem? (i := 0) rfl)), (wr_18 _ (List.mem_of_getElem? (i := 1) rfl))⟩
theorem zk_X7_begin : zcalV mX7_begin RX7 2 := ⟨⟨⟨(wr_1 _ (List.mem_of_getElem? (i := 5) rfl)), (wr_18 _ (List.mem_of_getElem? (i := 6) rfl))⟩, ⟨by decide +kernel, by decide +kernel, by decide +kernel⟩, by decide +kernel, rfl⟩, (wr_18 _ (List.mem_of_getElem? (i := 4) rfl)), (wr_18 _ (List.mem_of_getElem? (i := 5) rfl))⟩
theorem zk_X7_give : zcalV mX7_give RX7 0 := ⟨⟨⟨(wr_1 _ (List.mem_of_getElem? (i := 5) rfl)), (wr_18 _ (List.mem_of_getElem? (i := 11) rfl))⟩, ⟨by decide +kernel, by decide +kernel, by decide +kernel⟩, by decide +kernel, rfl⟩, (wr_18 _ (List.mem_of_getElem? (i := 9) rfl)), (wr_18 _ (List.mem_of_getElem? (i := 10) rfl))⟩
theorem zk_X7_see : zcalV mX7_see RX7 1 := ⟨⟨⟨(wr_1 _ (List.mem_of_getElem? (i := 5) rfl)), (wr_18 _ (List.mem_of_getElem? (i := 17) rfl))⟩, ⟨by decide +kernel, by decide +kernel, by decide +kernel⟩, by decide +kernel, rfl⟩, (wr_18 _ (List.mem_of_getElem? (i := 15) rfl)), (wr_18 _ (List.mem_of_getElem? (i := 16) rfl))⟩
theorem zk_X7_standing : zcalV mX7_standing RX7 1 := ⟨⟨⟨(wr_1 _ (List.mem_of_getElem? (i := 5) rfl)), (wr_18 _ (List.mem_of_getElem? (i := 21) rfl))⟩, ⟨by decide +kernel, by decide +kernel, by decide +kernel⟩, by decide +kernel, rfl⟩, (wr_18 _ (List.mem_of_getElem? (i := 19) rfl)), (wr_18 _ (List.mem_of_getElem? (i := 20) rfl))⟩
theorem zk_X7_isLow : zcalS mX7_isLow 1 := ⟨⟨⟨(wr_1 _ (List.mem_of_getElem? (i := 5) rfl)), (wr_19 _ (List.mem_of_getElem? (i := 0) rfl))⟩, ⟨by decide +kernel, by decide +kernel, by decide +kernel⟩, by decide +kernel, rfl⟩, (wr_18 _ (List.mem_of_getElem? (i := 23) rfl))⟩
theorem zk_X7_digit : zcalS mX7_digit 1 := ⟨⟨⟨(wr_1 _ (List.mem_of_getElem? (i := 5) rfl)), (wr_19 _ (List.mem_of_getElem? (i := 3) rfl))⟩, ⟨by decide +kernel, by decide +kernel, by decide +kernel⟩, by decide +kernel, rfl⟩, (wr_19 _ (List.mem_of_getElem? (i := 2) rfl))⟩
theorem zk_X7_readWord : zcalV mX7_readWord RX7 1 := ⟨⟨⟨(wr_1 _ (List.mem_of_getElem? (i := 5) rfl)), (wr_19 _ (List.mem_of_getElem? (i := 7) rfl))⟩, ⟨by decide +kernel, by decide +kernel, by decide +kernel⟩, by decide +kernel, rfl⟩, (wr_19 _ (List.mem_of_getElem? (i := 5) rfl)), (wr_19 _ (List.mem_of_getElem? (i := 6) rfl))⟩
theorem zk_X7_addToWord : zcalV mX7_addToWord RX7 1 := ⟨⟨⟨(wr_1 _ (List.mem_of_getElem? (i := 5) rfl)), (wr_19 _ (List.mem_of_getElem? (i := 12) rfl))⟩, ⟨by decide +kernel, by decide +kernel, by decide +kernel⟩, by decide +kernel, rfl⟩, (wr_19 _ (List.mem_of_getElem? (i := 10) rfl)), (wr_19 _ (List.mem_of_getElem? (i := 11) rfl))⟩
theorem zk_X7_tell : zcalV mX7_tell RX7 2 := ⟨⟨⟨(wr_1 _ (List.mem_of_getElem? (i := 5) rfl)), (wr_19 _ (List.mem_of_getElem? (i := 16) rfl))⟩, ⟨by decide +kernel, by decide +kernel, by decide +kernel⟩, by decide +kernel, rfl⟩, (wr_19 _ (List.mem_of_getElem? (i := 14) rfl)), (wr_19 _ (List.mem_of_getElem? (i := 15) rfl))⟩
theorem zk_X7_nameOfWord : zcalV mX7_nameOfWord RX7 0 := ⟨⟨⟨(wr_1 _ (List.mem_of_getElem? (i := 5) rfl)), (wr_19 _ (List.mem_of_getElem? (i := 21) rfl))⟩, ⟨by decide +kernel, by decide +kernel, by decide +kernel⟩, by decide +kernel, rfl⟩, (wr_19 _ (List.mem_of_getElem? (i := 19) rfl)), (wr_19 _ (List.mem_of_getElem? (i := 20) rfl))⟩
theorem zk_X7_keep : zcalV mX7_keep RX7 4 := ⟨⟨⟨(wr_1 _ (List.mem_of_getElem? (i := 5) rfl)), (wr_20 _ (List.mem_of_getElem? (i := 1) rfl))⟩, ⟨by decide +kernel, by decide +kernel, by decide +kernel⟩, by decide +kernel, rfl⟩, (wr_19 _ (List.mem_of_getElem? (i := 23) rfl)), (wr_20 _ (List.mem_of_getElem? (i := 0) rfl))⟩
theorem zk_X6_raw : zcalV mX6_raw RX6 0 := ⟨⟨⟨(wr_1 _ (List.mem_of_getElem? (i := 2) rfl)), (wr_20 _ (List.mem_of_getElem? (i := 5) rfl))⟩, ⟨by decide +kernel, by decide +kernel, by decide +kernel⟩, by decide +kernel, rfl⟩, (wr_20 _ (List.mem_of_getElem? (i := 3) rfl)), (wr_20 _ (List.mem_of_getElem? (i := 4) rfl))⟩
theorem zk_X7_raw : zcalV mX7_raw RX7 0 := ⟨⟨⟨(wr_1 _ (List.mem_of_getElem? (i := 5) rfl)), (wr_20 _ (List.mem_of_getElem? (i := 10) rfl))⟩, ⟨by decide +kernel, by decide +kernel, by decide +kernel⟩, by decide +kernel, rfl⟩, (wr_20 _ (List.mem_of_getElem? (i := 8) rfl)), (wr_20 _ (List.mem_of_getElem? (i := 9) rfl))⟩
theorem zk_X5_has : zcalV mX5_has RX5 1 := ⟨⟨⟨(wr_2 _ (List.mem_of_getElem? (i := 10) rfl)), (wr_21 _ (List.mem_of_getElem? (i := 2) rfl))⟩, ⟨by decide +kernel, by decide +kernel, by decide +kernel⟩, by decide +kernel, rfl⟩, (wr_21 _ (List.mem_of_getElem? (i := 0) rfl)), (wr_21 _ (List.mem_of_getElem? (i := 1) rfl))⟩
theorem zk_X5_part : zcalV mX5_part RX5 2 := ⟨⟨⟨(wr_2 _ (List.mem_of_getElem? (i := 10) rfl)), (wr_21 _ (List.mem_of_getElem? (i := 6) rfl))⟩, ⟨by decide +kernel, by decide +kernel, by decide +kernel⟩, by decide +kernel, rfl⟩, (wr_21 _ (List.mem_of_getElem? (i := 4) rfl)), (wr_21 _ (List.mem_of_getElem? (i := 5) rfl))⟩
theorem zk_X7_token : zcalV mX7_token RX7 2 := ⟨⟨⟨(wr_1 _ (List.mem_of_getElem? (i := 5) rfl)), (wr_21 _ (List.mem_of_getElem? (i := 11) rfl))⟩, ⟨by decide +kernel, by decide +kernel, by decide +kernel⟩, by decide +kernel, rfl⟩, (wr_21 _ (List.mem_of_getElem? (i := 9) rfl)), (wr_21 _ (List.mem_of_getElem? (i := 10) rfl))⟩
theorem zk_X7_thrown : zcalV mX7_thrown RX7 0 := ⟨⟨⟨(wr_1 _ (List.mem_of_getElem? (i := 5) rfl)), (wr_21 _ (List.mem_of_getElem? (i := 15) rfl))⟩, ⟨by decide +kernel, by decide +kernel, by decide +kernel⟩, by decide +kernel, rfl⟩, (wr_21 _ (List.mem_of_getElem? (i := 13) rfl)), (wr_21 _ (List.mem_of_getElem? (i := 14) rfl))⟩
theorem zk_X6_name : zcalV mX6_name RX6 2 := ⟨⟨⟨(wr_1 _ (List.mem_of_getElem? (i := 2) rfl)), (wr_21 _ (List.mem_of_getElem? (i := 19) rfl))⟩, ⟨by decide +kernel, by decide +kernel, by decide +kernel⟩, by decide +kernel, rfl⟩, (wr_21 _ (List.mem_of_getElem? (i := 17) rfl)), (wr_21 _ (List.mem_of_getElem? (i := 18) rfl))⟩
theorem zk_X7_name : zcalV mX7_name RX7 2 := ⟨⟨⟨(wr_1 _ (List.mem_of_getElem? (i := 5) rfl)), (wr_22 _ (List.mem_of_getElem? (i := 0) rfl))⟩, ⟨by decide +kernel, by decide +kernel, by decide +kernel⟩, by decide +kernel, rfl⟩, (wr_21 _ (List.mem_of_getElem? (i := 22) rfl)), (wr_21 _ (List.mem_of_getElem? (i := 23) rfl))⟩
theorem zk_X6_told : zcalV mX6_told RX6 2 := ⟨⟨⟨(wr_1 _ (List.mem_of_getElem? (i := 2) rfl)), (wr_22 _ (List.mem_of_getElem? (i := 4) rfl))⟩, ⟨by decide +kernel, by decide +kernel, by decide +kernel⟩, by decide +kernel, rfl⟩, (wr_22 _ (List.mem_of_getElem? (i := 2) rfl)), (wr_22 _ (List.mem_of_getElem? (i := 3) rfl))⟩
theorem zk_X4_part : zcalV mX4_part RX4 2 := ⟨⟨⟨(wr_2 _ (List.mem_of_getElem? (i := 14) rfl)), (wr_22 _ (List.mem_of_getElem? (i := 8) rfl))⟩, ⟨by decide +kernel, by decide +kernel, by decide +kernel⟩, by decide +kernel, rfl⟩, (wr_22 _ (List.mem_of_getElem? (i := 6) rfl)), (wr_22 _ (List.mem_of_getElem? (i := 7) rfl))⟩
theorem zk_X7_told : zcalV mX7_told RX7 2 := ⟨⟨⟨(wr_1 _ (List.mem_of_getElem? (i := 5) rfl)), (wr_22 _ (List.mem_of_getElem? (i := 12) rfl))⟩, ⟨by decide +kernel, by decide +kernel, by decide +kernel⟩, by decide +kernel, rfl⟩, (wr_22 _ (List.mem_of_getElem? (i := 10) rfl)), (wr_22 _ (List.mem_of_getElem? (i := 11) rfl))⟩
theorem zk_X6_categoryOf : zcalV mX6_categoryOf RX6 1 := ⟨⟨⟨(wr_1 _ (List.mem_of_getElem? (i := 2) rfl)), (wr_22 _ (List.mem_of_getElem? (i := 16) rfl))⟩, ⟨by decide +kernel, by decide +kernel, by decide +kernel⟩, by decide +kernel, rfl⟩, (wr_22 _ (List.mem_of_getElem? (i := 14) rfl)), (wr_22 _ (List.mem_of_getElem? (i := 15) rfl))⟩
theorem zk_X7_categoryOf : zcalV mX7_categoryOf RX7 1 := ⟨⟨⟨(wr_1 _ (List.mem_of_getElem? (i := 5) rfl)), (wr_22 _ (List.mem_of_getElem? (i := 20) rfl))⟩, ⟨by decide +kernel, by decide +kernel, by decide +kernel⟩, by decide +kernel, rfl⟩, (wr_22 _ (List.mem_of_getElem? (i := 18) rfl)), (wr_22 _ (List.mem_of_getElem? (i := 19) rfl))⟩
theorem zk_X6_state : zcalV mX6_state RX6 0 := ⟨⟨⟨(wr_1 _ (List.mem_of_getElem? (i := 2) rfl)), (wr_23 _ (List.mem_of_getElem? (i := 0) rfl))⟩, ⟨by decide +kernel, by decide +kernel, by decide +kernel⟩, by decide +kernel, rfl⟩, (wr_22 _ (List.mem_of_getElem? (i := 22) rfl)), (wr_22 _ (List.mem_of_getElem? (i := 23) rfl))⟩
theorem zk_X7_state : zcalV mX7_state RX7 0 := ⟨⟨⟨(wr_1 _ (List.mem_of_getElem? (i := 5) rfl)), (wr_23 _ (List.mem_of_getElem? (i := 4) rfl))⟩, ⟨by decide +kernel, by decide +kernel, by decide +kernel⟩, by decide +kernel, rfl⟩, (wr_23 _ (List.mem_of_getElem? (i := 2) rfl)), (wr_23 _ (List.mem_of_getElem? (i := 3) rfl))⟩
theorem zk_X6_count : zcalV mX6_count RX6 1 := ⟨⟨⟨(wr_1 _ (List.mem_of_getElem? (i := 2) rfl)), (wr_23 _ (List.mem_of_getElem? (i := 8) rfl))⟩, ⟨by decide +kernel, by decide +kernel, by decide +kernel⟩, by decide +kernel, rfl⟩, (wr_23 _ (List.mem_of_getElem? (i := 6) rfl)), (wr_23 _ (List.mem_of_getElem? (i := 7) rfl))⟩
theorem zk_X6_signsLeft : zcalV mX6_signsLeft RX6 0 := ⟨⟨⟨(wr_1 _ (List.mem_of_getElem? (i := 2) rfl)), (wr_23 _ (List.mem_of_getElem? (i := 15) rfl))⟩, ⟨by decide +kernel, by decide +kernel, by decide +kernel⟩, by decide +kernel, rfl⟩, (wr_23 _ (List.mem_of_getElem? (i := 13) rfl)), (wr_23 _ (List.mem_of_getElem? (i := 14) rfl))⟩
theorem zk_X7_count : zcalV mX7_count RX7 1 := ⟨⟨⟨(wr_1 _ (List.mem_of_getElem? (i := 5) rfl)), (wr_23 _ (List.mem_of_getElem? (i := 19) rfl))⟩, ⟨by decide +kernel, by decide +kernel, by decide +kernel⟩, by decide +kernel, rfl⟩, (wr_23 _ (List.mem_of_getElem? (i := 17) rfl)), (wr_23 _ (List.mem_of_getElem? (i := 18) rfl))⟩
theorem zk_X6_check : zcalV mX6_check RX6 0 := ⟨⟨⟨(wr_1 _ (List.mem_of_getElem? (i := 2) rfl)), (wr_23 _ (List.mem_of_getElem? (i := 23) rfl))⟩, ⟨by decide +kernel, by decide +kernel, by decide +kernel⟩, by decide +kernel, rfl⟩, (wr_23 _ (List.mem_of_getElem? (i := 21) rfl)), (wr_23 _ (List.mem_of_getElem? (i := 22) rfl))⟩
theorem zk_X3_allDiffer : zcalV mX3_allDiffer RX3 0 := ⟨⟨⟨(wr_2 _ (List.mem_of_getElem? (i := 6) rfl)), (wr_24 _ (List.mem_of_getElem? (i := 3) rfl))⟩, ⟨by decide +kernel, by decide +kernel, by decide +kernel⟩, by decide +kernel, rfl⟩, (wr_24 _ (List.mem_of_getElem? (i := 1) rfl)), (wr_24 _ (List.mem_of_getElem? (i := 2) rfl))⟩
theorem zk_X3_areSame : zcalV mX3_areSame RX3 2 := ⟨⟨⟨(wr_2 _ (List.mem_of_getElem? (i := 6) rfl)), (wr_24 _ (List.mem_of_getElem? (i := 7) rfl))⟩, ⟨by decide +kernel, by decide +kernel, by decide +kernel⟩, by decide +kernel, rfl⟩, (wr_24 _ (List.mem_of_getElem? (i := 5) rfl)), (wr_24 _ (List.mem_of_getElem? (i := 6) rfl))⟩
theorem zk_X6_tokensHaveNames : zcalV mX6_tokensHaveNames RX6 0 := ⟨⟨⟨(wr_1 _ (List.mem_of_getElem? (i := 2) rfl)), (wr_24 _ (List.mem_of_getElem? (i := 11) rfl))⟩, ⟨by decide +kernel, by decide +kernel, by decide +kernel⟩, by decide +kernel, rfl⟩, (wr_24 _ (List.mem_of_getElem? (i := 9) rfl)), (wr_24 _ (List.mem_of_getElem? (i := 10) rfl))⟩
theorem zk_X7_check : zcalV mX7_check RX7 0 := ⟨⟨⟨(wr_1 _ (List.mem_of_getElem? (i := 5) rfl)), (wr_24 _ (List.mem_of_getElem? (i := 16) rfl))⟩, ⟨by decide +kernel, by decide +kernel, by decide +kernel⟩, by decide +kernel, rfl⟩, (wr_24 _ (List.mem_of_getElem? (i := 14) rfl)), (wr_24 _ (List.mem_of_getElem? (i := 15) rfl))⟩
end
section
def zdig (c : Int) : Int := if 48 ≤ c ∧ c ≤ 57 then c - 48 else if 97 ≤ c ∧ c ≤ 102 then c - 87 else -1
def zst (row : Int → Int) (len p : Int) : Int := if 0 ≤ p ∧ p < len then row p else -1
def zat (cats : Int → Int) (s : Int) : Int := if 0 ≤ s ∧ s < 256 then cats s else -1
theorem zdig_R (c : Int) : -1 ≤ zdig c ∧ zdig c ≤ 15 := by unfold zdig; split <;> (try split) <;> omega
theorem zst_in {row : Int → Int} {len p : Int} (h0 : 0 ≤ p) (h1 : p < len) : zst row len p = row p := if_pos ⟨h0, h1⟩
theorem zst_out {row : Int → Int} {len p : Int} (h : p < 0 ∨ len ≤ p) : zst row len p = -1 := if_neg (by omega)
theorem zat_in {cats : Int → Int} {s : Int} (h0 : 0 ≤ s) (h1 : s < 256) : zat cats s = cats s := if_pos ⟨h0, h1⟩
theorem zat_out {cats : Int → Int} {s : Int} (h : s < 0 ∨ 256 ≤ s) : zat cats s = -1 := if_neg (by omega)

set_option maxRecDepth 100000 in
theorem M_X6_isSign {G : zG} {σ : zSt} {Post : Option Value → zSt → Prop} (s : Int) (hs : zR s) (h1 : 0 ≤ s → s < 256 → Post (some (.int (zI 1))) σ) (h0 : s < 0 ∨ 256 ≤ s → Post (some (.int (zI 0))) σ) : zV G shC mX6_isSign 0 (zini 1 [.int (zI s)]) [] σ Post := by
  refine z_rg (fun hR => ?_)
  refine z_lv (lv' := [some (.int (zI s))]) rfl ?_
  refine z_iload_0 dX6_isSign_0 ?_
  refine z_if_lt (tgt := 15) dX6_isSign_1 (by decide) (by omega) (fun c1 => ?_) (fun c1 => ?_)
  · refine z_iconst 0 dX6_isSign_15 rfl ?_
    refine z_zret dX6_isSign_16 rfl (Or.inl rfl) ?_
    exact h0 (by omega)
  · refine z_iload_0 dX6_isSign_4 ?_
    refine z_sipush 256 dX6_isSign_5 (by decide +kernel) ?_
    refine z_icmp_ge (tgt := 15) dX6_isSign_8 (by decide) (by omega) ⟨by decide, by decide⟩ (fun c8 => ?_) (fun c8 => ?_)
    · refine z_iconst 0 dX6_isSign_15 rfl ?_
      refine z_zret dX6_isSign_16 rfl (Or.inl rfl) ?_
      exact h0 (by omega)
    · refine z_iconst 1 dX6_isSign_11 rfl ?_
      refine z_goto (tgt := 16) dX6_isSign_12 (by decide) ?_
      refine z_zret dX6_isSign_16 rfl (Or.inr rfl) ?_
      exact h1 (by omega) (by omega)

set_option maxRecDepth 100000 in
theorem M_X0_at {G : zG} {σ : zSt} {Post : Option Value → zSt → Prop} (s : Int) (hs : zR s) (h : Post (some (.int (zI (zat (σ.2 8) s)))) σ) : zV G shC mX0_at 0 (zini 2 [.ref (zad G 1), .int (zI s)]) [] σ Post := by
  refine z_rg (fun hR => ?_)
  refine z_lv (lv' := [some (.ref (zad G 1)), some (.int (zI s))]) rfl ?_
  refine z_iload_1 dX0_at_0 ?_
  refine z_if_lt (tgt := 22) dX0_at_1 (by decide) (by omega) (fun c1 => ?_) (fun c1 => ?_)
  · refine z_iconst (-1) dX0_at_22 rfl ?_
    refine z_iret dX0_at_23 rfl ?_
    exact zPe h (zat_out (by omega)).symm
  · refine z_iload_1 dX0_at_4 ?_
    refine z_aload_0 dX0_at_5 ?_
    refine z_getR (j := 0) dX0_at_6 zf_X0_9 rfl rfl ?_
    refine z_alenI dX0_at_9 rfl ?_
    refine z_top (b := 256) rfl ?_
    refine z_icmp_ge (tgt := 22) dX0_at_10 (by decide) (by omega) ⟨by decide, by decide⟩ (fun c10 => ?_) (fun c10 => ?_)
    · refine z_iconst (-1) dX0_at_22 rfl ?_
      refine z_iret dX0_at_23 rfl ?_
      exact zPe h (zat_out (by omega)).symm
    · refine z_aload_0 dX0_at_13 ?_
      refine z_getR (j := 0) dX0_at_14 zf_X0_9 rfl rfl ?_
      refine z_iload_1 dX0_at_17 ?_
      refine z_iald dX0_at_18 rfl (by decide) (by omega) (by omega) ?_
      have w1 : zR (σ.2 8 s) := hR.2 8 s
      refine z_goto (tgt := 23) dX0_at_19 (by decide) ?_
      refine z_iret dX0_at_23 rfl ?_
      exact zPe h (zat_in (by omega) (by omega)).symm

set_option maxRecDepth 100000 in
theorem M_X0_setHere {G : zG} {σ : zSt} {Post : Option Value → zSt → Prop} (s c : Int) (hs : 0 ≤ s) (hs1 : s < 256) (hc : zR c) (h : Post none (zsA σ 8 s c)) : zV G shC mX0_setHere 0 (zini 3 [.ref (zad G 1), .int (zI s), .int (zI c)]) [] σ Post := by
  refine z_rg (fun hR => ?_)
  refine z_lv (lv' := [some (.ref (zad G 1)), some (.int (zI s)), some (.int (zI c))]) rfl ?_
  refine z_iload_1 dX0_setHere_0 ?_
  refine z_if_lt (tgt := 20) dX0_setHere_1 (by decide) (by omega) (fun c1 => by exfalso; omega) (fun c1 => ?_)
  refine z_iload_1 dX0_setHere_4 ?_
  refine z_aload_0 dX0_setHere_5 ?_
  refine z_getR (j := 0) dX0_setHere_6 zf_X0_9 rfl rfl ?_
  refine z_alenI dX0_setHere_9 rfl ?_
  refine z_top (b := 256) rfl ?_
  refine z_icmp_ge (tgt := 20) dX0_setHere_10 (by decide) (by omega) ⟨by decide, by decide⟩ (fun c10 => by exfalso; omega) (fun c10 => ?_)
  refine z_aload_0 dX0_setHere_13 ?_
  refine z_getR (j := 0) dX0_setHere_14 zf_X0_9 rfl rfl ?_
  refine z_iload_1 dX0_setHere_17 ?_
  refine z_iload_2 dX0_setHere_18 ?_
  refine z_iast dX0_setHere_19 rfl (by decide) (by omega) (by omega) (by omega) ?_
  refine z_vret dX0_setHere_20 rfl ?_
  exact h

set_option maxRecDepth 100000 in
theorem M_X1_left {G : zG} {σ : zSt} {Post : Option Value → zSt → Prop} (t : Nat) (ht : t < 6) (h1 : σ.1 (18 + t) 6 < σ.1 (18 + t) 5 → Post (some (.int (zI (σ.1 (18 + t) 5 - σ.1 (18 + t) 6)))) σ) (h0 : σ.1 (18 + t) 5 ≤ σ.1 (18 + t) 6 → Post (some (.int (zI 0))) σ) : zV G shC mX1_left 0 (zini 1 [.ref (zad G (18 + t))]) [] σ Post := by
  refine z_rg (fun hR => ?_)
  refine z_lv (lv' := [some (.ref (zad G (18 + t)))]) rfl ?_
  refine z_aload_0 dX1_left_0 ?_
  refine z_getI (j := 6) dX1_left_1 zf_X1_38 (shC_lv ht) rfl ?_
  have w1 : zR (σ.1 (18 + t) 6) := hR.1 (18 + t) 6
  refine z_aload_0 dX1_left_4 ?_
  refine z_getI (j := 5) dX1_left_5 zf_X1_35 (shC_lv ht) rfl ?_
  have w2 : zR (σ.1 (18 + t) 5) := hR.1 (18 + t) 5
  refine z_icmp_ge (tgt := 23) dX1_left_8 (by decide) (by omega) (by omega) (fun c8 => ?_) (fun c8 => ?_)
  · refine z_iconst 0 dX1_left_23 rfl ?_
    refine z_iret dX1_left_24 rfl ?_
    exact h0 (by omega)
  · refine z_aload_0 dX1_left_11 ?_
    refine z_getI (j := 5) dX1_left_12 zf_X1_35 (shC_lv ht) rfl ?_
    have w3 : zR (σ.1 (18 + t) 5) := hR.1 (18 + t) 5
    refine z_aload_0 dX1_left_15 ?_
    refine z_getI (j := 6) dX1_left_16 zf_X1_38 (shC_lv ht) rfl ?_
    have w4 : zR (σ.1 (18 + t) 6) := hR.1 (18 + t) 6
    refine z_isub dX1_left_19 ?_
    refine z_goto (tgt := 24) dX1_left_20 (by decide) ?_
    refine z_iret dX1_left_24 rfl ?_
    exact h1 (by omega)

set_option maxRecDepth 100000 in
theorem M_X1_standing {G : zG} {σ : zSt} {Post : Option Value → zSt → Prop} (t : Nat) (z : Int) (ht : t < 6) (hz : zR z) (hl : σ.1 (18 + t) 5 ≤ 121) (h : Post (some (.int (zI (zst (σ.2 (24 + t)) (σ.1 (18 + t) 5) z)))) σ) : zV G shC mX1_standing 0 (zini 2 [.ref (zad G (18 + t)), .int (zI z)]) [] σ Post := by
  refine z_rg (fun hR => ?_)
  refine z_lv (lv' := [some (.ref (zad G (18 + t))), some (.int (zI z))]) rfl ?_
  refine z_iload_1 dX1_standing_0 ?_
  refine z_if_lt (tgt := 30) dX1_standing_1 (by decide) (by omega) (fun c1 => ?_) (fun c1 => ?_)
  · refine z_iconst (-1) dX1_standing_30 rfl ?_
    refine z_iret dX1_standing_31 rfl ?_
    exact zPe h (zst_out (by omega)).symm
  · refine z_iload_1 dX1_standing_4 ?_
    refine z_aload_0 dX1_standing_5 ?_
    refine z_getI (j := 5) dX1_standing_6 zf_X1_35 (shC_lv ht) rfl ?_
    have w1 : zR (σ.1 (18 + t) 5) := hR.1 (18 + t) 5
    refine z_icmp_ge (tgt := 30) dX1_standing_9 (by decide) (by omega) (by omega) (fun c9 => ?_) (fun c9 => ?_)
    · refine z_iconst (-1) dX1_standing_30 rfl ?_
      refine z_iret dX1_standing_31 rfl ?_
      exact zPe h (zst_out (by omega)).symm
    · refine z_iload_1 dX1_standing_12 ?_
      refine z_aload_0 dX1_standing_13 ?_
      refine z_getR (j := 0) dX1_standing_14 zf_X1_9 (shC_lv ht) rfl ?_
      refine z_alenI dX1_standing_17 (shC_la ht) ?_
      refine z_top (b := 121) rfl ?_
      refine z_icmp_ge (tgt := 30) dX1_standing_18 (by decide) (by omega) ⟨by decide, by decide⟩ (fun c18 => ?_) (fun c18 => ?_)
      · refine z_iconst (-1) dX1_standing_30 rfl ?_
        refine z_iret dX1_standing_31 rfl ?_
        exact zPe h (zst_out (by omega)).symm
      · refine z_aload_0 dX1_standing_21 ?_
        refine z_getR (j := 0) dX1_standing_22 zf_X1_9 (shC_lv ht) rfl ?_
        refine z_iload_1 dX1_standing_25 ?_
        refine z_iald dX1_standing_26 (shC_la ht) (by decide) (by omega) (by omega) ?_
        have w2 : zR (σ.2 (24 + t) z) := hR.2 (24 + t) z
        refine z_goto (tgt := 31) dX1_standing_27 (by decide) ?_
        refine z_iret dX1_standing_31 rfl ?_
        exact zPe h (zst_in (by omega) (by omega)).symm

set_option maxRecDepth 100000 in
theorem M_X1_digit {G : zG} {σ : zSt} {Post : Option Value → zSt → Prop} (c : Int) (hc : zR c) (h : Post (some (.int (zI (zdig c)))) σ) : zV G shC mX1_digit 0 (zini 1 [.int (zI c)]) [] σ Post := by
  refine z_rg (fun hR => ?_)
  refine z_lv (lv' := [some (.int (zI c))]) rfl ?_
  refine z_iload_0 dX1_digit_0 ?_
  refine z_bipush 48 dX1_digit_1 (by decide +kernel) ?_
  refine z_icmp_lt (tgt := 17) dX1_digit_3 (by decide) (by omega) ⟨by decide, by decide⟩ (fun c3 => ?_) (fun c3 => ?_)
  · refine z_iload_0 dX1_digit_17 ?_
    refine z_bipush 97 dX1_digit_18 (by decide +kernel) ?_
    refine z_icmp_lt (tgt := 36) dX1_digit_20 (by decide) (by omega) ⟨by decide, by decide⟩ (fun c20 => ?_) (fun c20 => ?_)
    · refine z_iconst (-1) dX1_digit_36 rfl ?_
      refine z_iret dX1_digit_37 rfl ?_
      exact zPe h (by unfold zdig; split <;> (try split) <;> omega)
    · refine z_iload_0 dX1_digit_23 ?_
      refine z_bipush 102 dX1_digit_24 (by decide +kernel) ?_
      refine z_icmp_gt (tgt := 36) dX1_digit_26 (by decide) (by omega) ⟨by decide, by decide⟩ (fun c26 => ?_) (fun c26 => ?_)
      · refine z_iconst (-1) dX1_digit_36 rfl ?_
        refine z_iret dX1_digit_37 rfl ?_
        exact zPe h (by unfold zdig; split <;> (try split) <;> omega)
      · refine z_iload_0 dX1_digit_29 ?_
        refine z_bipush 87 dX1_digit_30 (by decide +kernel) ?_
        refine z_isub dX1_digit_32 ?_
        refine z_goto (tgt := 37) dX1_digit_33 (by decide) ?_
        refine z_iret dX1_digit_37 rfl ?_
        exact zPe h (by unfold zdig; split <;> (try split) <;> omega)
  · refine z_iload_0 dX1_digit_6 ?_
    refine z_bipush 57 dX1_digit_7 (by decide +kernel) ?_
    refine z_icmp_gt (tgt := 17) dX1_digit_9 (by decide) (by omega) ⟨by decide, by decide⟩ (fun c9 => ?_) (fun c9 => ?_)
    · refine z_iload_0 dX1_digit_17 ?_
      refine z_bipush 97 dX1_digit_18 (by decide +kernel) ?_
      refine z_icmp_lt (tgt := 36) dX1_digit_20 (by decide) (by omega) ⟨by decide, by decide⟩ (fun c20 => ?_) (fun c20 => ?_)
      · refine z_iconst (-1) dX1_digit_36 rfl ?_
        refine z_iret dX1_digit_37 rfl ?_
        exact zPe h (by unfold zdig; split <;> (try split) <;> omega)
      · refine z_iload_0 dX1_digit_23 ?_
        refine z_bipush 102 dX1_digit_24 (by decide +kernel) ?_
        refine z_icmp_gt (tgt := 36) dX1_digit_26 (by decide) (by omega) ⟨by decide, by decide⟩ (fun c26 => ?_) (fun c26 => ?_)
        · refine z_iconst (-1) dX1_digit_36 rfl ?_
          refine z_iret dX1_digit_37 rfl ?_
          exact zPe h (by unfold zdig; split <;> (try split) <;> omega)
        · refine z_iload_0 dX1_digit_29 ?_
          refine z_bipush 87 dX1_digit_30 (by decide +kernel) ?_
          refine z_isub dX1_digit_32 ?_
          refine z_goto (tgt := 37) dX1_digit_33 (by decide) ?_
          refine z_iret dX1_digit_37 rfl ?_
          exact zPe h (by unfold zdig; split <;> (try split) <;> omega)
    · refine z_iload_0 dX1_digit_12 ?_
      refine z_bipush 48 dX1_digit_13 (by decide +kernel) ?_
      refine z_isub dX1_digit_15 ?_
      refine z_iret dX1_digit_16 rfl ?_
      exact zPe h (by unfold zdig; split <;> (try split) <;> omega)

set_option maxRecDepth 100000 in
theorem M_X2_hasFile {G : zG} {σ : zSt} {Post : Option Value → zSt → Prop} (f : Int) (hf : zR f) (h8 : σ.1 3 3 ≤ 8) (h1 : 0 ≤ f → f < σ.1 3 3 → Post (some (.int (zI 1))) σ) (h0 : f < 0 ∨ σ.1 3 3 ≤ f → Post (some (.int (zI 0))) σ) : zV G shC mX2_hasFile 0 (zini 2 [.ref (zad G 3), .int (zI f)]) [] σ Post := by
  refine z_rg (fun hR => ?_)
  refine z_lv (lv' := [some (.ref (zad G 3)), some (.int (zI f))]) rfl ?_
  refine z_iload_1 dX2_hasFile_0 ?_
  refine z_if_lt (tgt := 25) dX2_hasFile_1 (by decide) (by omega) (fun c1 => ?_) (fun c1 => ?_)
  · refine z_iconst 0 dX2_hasFile_25 rfl ?_
    refine z_zret dX2_hasFile_26 rfl (Or.inl rfl) ?_
    first | exact h1 (by omega) (by omega) | exact h0 (by omega) | (exfalso; omega)
  · refine z_iload_1 dX2_hasFile_4 ?_
    refine z_aload_0 dX2_hasFile_5 ?_
    refine z_getI (j := 3) dX2_hasFile_6 zf_X2_21 rfl rfl ?_
    have w1 : zR (σ.1 3 3) := hR.1 3 3
    refine z_icmp_ge (tgt := 25) dX2_hasFile_9 (by decide) (by omega) (by omega) (fun c9 => ?_) (fun c9 => ?_)
    · refine z_iconst 0 dX2_hasFile_25 rfl ?_
      refine z_zret dX2_hasFile_26 rfl (Or.inl rfl) ?_
      first | exact h1 (by omega) (by omega) | exact h0 (by omega) | (exfalso; omega)
    · refine z_iload_1 dX2_hasFile_12 ?_
      refine z_aload_0 dX2_hasFile_13 ?_
      refine z_getR (j := 0) dX2_hasFile_14 zf_X2_9 rfl rfl ?_
      refine z_alenI dX2_hasFile_17 rfl ?_
      refine z_top (b := 8) rfl ?_
      refine z_icmp_ge (tgt := 25) dX2_hasFile_18 (by decide) (by omega) ⟨by decide, by decide⟩ (fun c18 => ?_) (fun c18 => ?_)
      · refine z_iconst 0 dX2_hasFile_25 rfl ?_
        refine z_zret dX2_hasFile_26 rfl (Or.inl rfl) ?_
        first | exact h1 (by omega) (by omega) | exact h0 (by omega) | (exfalso; omega)
      · refine z_iconst 1 dX2_hasFile_21 rfl ?_
        refine z_goto (tgt := 26) dX2_hasFile_22 (by decide) ?_
        refine z_zret dX2_hasFile_26 rfl (Or.inr rfl) ?_
        first | exact h1 (by omega) (by omega) | exact h0 (by omega) | (exfalso; omega)

theorem zat_R (cats : Int → Int) (s : Int) (h : ∀ q, zR (cats q)) : zR (zat cats s) := by unfold zat; split; exact h s; omega
theorem zst_R (row : Int → Int) (len p : Int) (h : ∀ q, zR (row q)) : zR (zst row len p) := by unfold zst; split; exact h p; omega
theorem zst_cg {r r' : Int → Int} {l l' p : Int} (e : r = r') (e2 : l = l') : zst r l p = zst r' l' p := by rw [e, e2]

set_option maxRecDepth 100000 in
theorem M_X2_lineCount {G : zG} {σ : zSt} {Post : Option Value → zSt → Prop} (f : Int) (hf : zR f) (h8 : σ.1 3 3 ≤ 8) (h1 : 0 ≤ f → f < σ.1 3 3 → Post (some (.int (zI (σ.2 10 f)))) σ) (h0 : f < 0 ∨ σ.1 3 3 ≤ f → Post (some (.int (zI 0))) σ) : zV G shC mX2_lineCount 0 (zini 2 [.ref (zad G 3), .int (zI f)]) [] σ Post := by
  refine z_rg (fun hR => ?_)
  refine z_lv (lv' := [some (.ref (zad G 3)), some (.int (zI f))]) rfl ?_
  refine z_aload_0 dX2_lineCount_0 ?_
  refine z_iload_1 dX2_lineCount_1 ?_
  refine z_callV mX2_hasFile [.int (zI f)] dX2_lineCount_2 zk_X2_hasFile zl_X2_25 ⟨Nat.le_of_ble_eq_true rfl, Nat.le_of_ble_eq_true rfl⟩ rfl rfl (Nat.le_of_ble_eq_true rfl) (Nat.le_of_ble_eq_true rfl) ?_
  refine M_X2_hasFile f (by omega) (by omega) (fun i1 i2 => ?_) (fun i1 => ?_)
  · refine z_b1 ?_
    refine z_if_eq (tgt := 17) dX2_lineCount_5 (by decide) ⟨by decide, by decide⟩ (fun c5 => by exfalso; omega) (fun c5 => ?_)
    refine z_aload_0 dX2_lineCount_8 ?_
    refine z_getR (j := 0) dX2_lineCount_9 zf_X2_9 rfl rfl ?_
    refine z_iload_1 dX2_lineCount_12 ?_
    refine z_iald dX2_lineCount_13 rfl (by decide) (by omega) (by omega) ?_
    have w1 : zR (σ.2 10 f) := hR.2 10 f
    refine z_goto (tgt := 18) dX2_lineCount_14 (by decide) ?_
    refine z_iret dX2_lineCount_18 rfl ?_
    exact h1 (by omega) (by omega)
  · refine z_b1 ?_
    refine z_if_eq (tgt := 17) dX2_lineCount_5 (by decide) ⟨by decide, by decide⟩ (fun c5 => ?_) (fun c5 => by exfalso; omega)
    refine z_iconst 0 dX2_lineCount_17 rfl ?_
    refine z_iret dX2_lineCount_18 rfl ?_
    exact h0 (by omega)

set_option maxRecDepth 100000 in
theorem M_X2_newFile {G : zG} {σ : zSt} {Post : Option Value → zSt → Prop} (h00 : 0 ≤ σ.1 3 3) (h1 : σ.1 3 3 < 8 → Post (some (.int (zI (σ.1 3 3)))) (zsF σ 3 3 (σ.1 3 3 + 1))) (h0 : 8 ≤ σ.1 3 3 → Post (some (.int (zI (-4)))) σ) : zV G shC mX2_newFile 0 (zini 1 [.ref (zad G 3)]) [] σ Post := by
  refine z_rg (fun hR => ?_)
  refine z_lv (lv' := [some (.ref (zad G 3))]) rfl ?_
  refine z_aload_0 dX2_newFile_0 ?_
  refine z_getI (j := 3) dX2_newFile_1 zf_X2_21 rfl rfl ?_
  have w1 : zR (σ.1 3 3) := hR.1 3 3
  refine z_bipush 8 dX2_newFile_4 (by decide +kernel) ?_
  refine z_icmp_lt (tgt := 12) dX2_newFile_6 (by decide) (by omega) ⟨by decide, by decide⟩ (fun c6 => ?_) (fun c6 => ?_)
  · refine z_aload_0 dX2_newFile_12 ?_
    refine z_dup dX2_newFile_13 rfl ?_
    refine z_getI (j := 3) dX2_newFile_14 zf_X2_21 rfl rfl ?_
    have w2 : zR (σ.1 3 3) := hR.1 3 3
    refine z_iconst 1 dX2_newFile_17 rfl ?_
    refine z_iadd dX2_newFile_18 ?_
    refine z_putI (j := 3) dX2_newFile_19 zp_X2_21 rfl rfl (by omega) ?_
    refine z_aload_0 dX2_newFile_22 ?_
    refine z_getI (j := 3) dX2_newFile_23 zf_X2_21 rfl rfl ?_
    refine z_top (b := ((σ.1 3 3) + 1)) zsF_eq ?_
    refine z_iconst 1 dX2_newFile_26 rfl ?_
    refine z_isub dX2_newFile_27 ?_
    refine z_iret dX2_newFile_28 rfl ?_
    exact zPe (h1 (by omega)) (by omega)
  · refine z_bipush (-4) dX2_newFile_9 (by decide +kernel) ?_
    refine z_iret dX2_newFile_11 rfl ?_
    exact h0 (by omega)

set_option maxRecDepth 100000 in
theorem M_X2_newLine {G : zG} {σ : zSt} {Post : Option Value → zSt → Prop} (f : Int) (hf0 : 0 ≤ f) (hf : f < σ.1 3 3) (h8 : σ.1 3 3 ≤ 8) (hc0 : 0 ≤ σ.2 10 f) (h1 : σ.2 10 f < 30 → Post (some (.int (zI (σ.2 10 f + 1)))) (zsA σ 10 f (σ.2 10 f + 1))) (h0 : 30 ≤ σ.2 10 f → Post (some (.int (zI (-4)))) σ) : zV G shC mX2_newLine 0 (zini 3 [.ref (zad G 3), .int (zI f)]) [] σ Post := by
  refine z_rg (fun hR => ?_)
  refine z_lv (lv' := [some (.ref (zad G 3)), some (.int (zI f)), none]) rfl ?_
  refine z_aload_0 dX2_newLine_0 ?_
  refine z_iload_1 dX2_newLine_1 ?_
  refine z_callV mX2_lineCount [.int (zI f)] dX2_newLine_2 zk_X2_lineCount zl_X2_29 ⟨Nat.le_of_ble_eq_true rfl, Nat.le_of_ble_eq_true rfl⟩ rfl rfl (Nat.le_of_ble_eq_true rfl) (Nat.le_of_ble_eq_true rfl) ?_
  refine M_X2_lineCount f (by omega) (by omega) (fun i1 i2 => ?_) (fun i1 => by exfalso; omega)
  refine z_b1 ?_
  have w1 : zR (σ.2 10 f) := hR.2 10 f
  refine z_istore_2 dX2_newLine_5 (Nat.le_of_ble_eq_true rfl) rfl ?_
  refine z_aload_0 dX2_newLine_6 ?_
  refine z_iload_1 dX2_newLine_7 ?_
  refine z_callV mX2_hasFile [.int (zI f)] dX2_newLine_8 zk_X2_hasFile zl_X2_25 ⟨Nat.le_of_ble_eq_true rfl, Nat.le_of_ble_eq_true rfl⟩ rfl rfl (Nat.le_of_ble_eq_true rfl) (Nat.le_of_ble_eq_true rfl) ?_
  refine M_X2_hasFile f (by omega) (by omega) (fun i1 i2 => ?_) (fun i1 => by exfalso; omega)
  refine z_b1 ?_
  refine z_if_eq (tgt := 20) dX2_newLine_11 (by decide) ⟨by decide, by decide⟩ (fun c11 => by exfalso; omega) (fun c11 => ?_)
  refine z_iload_2 dX2_newLine_14 ?_
  refine z_bipush 30 dX2_newLine_15 (by decide +kernel) ?_
  refine z_icmp_lt (tgt := 23) dX2_newLine_17 (by decide) (by omega) ⟨by decide, by decide⟩ (fun c17 => ?_) (fun c17 => ?_)
  · refine z_aload_0 dX2_newLine_23 ?_
    refine z_getR (j := 0) dX2_newLine_24 zf_X2_9 rfl rfl ?_
    refine z_iload_1 dX2_newLine_27 ?_
    refine z_iload_2 dX2_newLine_28 ?_
    refine z_iconst 1 dX2_newLine_29 rfl ?_
    refine z_iadd dX2_newLine_30 ?_
    refine z_iast dX2_newLine_31 rfl (by decide) (by omega) (by omega) (by omega) ?_
    refine z_iload_2 dX2_newLine_32 ?_
    refine z_iconst 1 dX2_newLine_33 rfl ?_
    refine z_iadd dX2_newLine_34 ?_
    refine z_iret dX2_newLine_35 rfl ?_
    exact h1 (by omega)
  · refine z_bipush (-4) dX2_newLine_20 (by decide +kernel) ?_
    refine z_iret dX2_newLine_22 rfl ?_
    exact h0 (by omega)

set_option maxRecDepth 100000 in
theorem M_X2_signAt {G : zG} {σ : zSt} {Post : Option Value → zSt → Prop} (z : Int) (hz0 : 0 ≤ z) (hz : z < 28800) (h : Post (some (.int (zI (σ.2 12 z)))) σ) : zV G shC mX2_signAt 0 (zini 2 [.ref (zad G 3), .int (zI z)]) [] σ Post := by
  refine z_rg (fun hR => ?_)
  refine z_lv (lv' := [some (.ref (zad G 3)), some (.int (zI z))]) rfl ?_
  refine z_iload_1 dX2_signAt_0 ?_
  refine z_if_lt (tgt := 22) dX2_signAt_1 (by decide) (by omega) (fun c1 => by exfalso; omega) (fun c1 => ?_)
  refine z_iload_1 dX2_signAt_4 ?_
  refine z_aload_0 dX2_signAt_5 ?_
  refine z_getR (j := 2) dX2_signAt_6 zf_X2_18 rfl rfl ?_
  refine z_alenI dX2_signAt_9 rfl ?_
  refine z_top (b := 28800) rfl ?_
  refine z_icmp_ge (tgt := 22) dX2_signAt_10 (by decide) (by omega) ⟨by decide, by decide⟩ (fun c10 => by exfalso; omega) (fun c10 => ?_)
  refine z_aload_0 dX2_signAt_13 ?_
  refine z_getR (j := 2) dX2_signAt_14 zf_X2_18 rfl rfl ?_
  refine z_iload_1 dX2_signAt_17 ?_
  refine z_iald dX2_signAt_18 rfl (by decide) (by omega) (by omega) ?_
  have w1 : zR (σ.2 12 z) := hR.2 12 z
  refine z_goto (tgt := 23) dX2_signAt_19 (by decide) ?_
  refine z_iret dX2_signAt_23 rfl ?_
  exact h

set_option maxRecDepth 100000 in
theorem M_X2_putSign {G : zG} {σ : zSt} {Post : Option Value → zSt → Prop} (z c : Int) (hz0 : 0 ≤ z) (hz : z < 28800) (hc : zR c) (h : Post none (zsA σ 12 z c)) : zV G shC mX2_putSign 0 (zini 3 [.ref (zad G 3), .int (zI z), .int (zI c)]) [] σ Post := by
  refine z_rg (fun hR => ?_)
  refine z_lv (lv' := [some (.ref (zad G 3)), some (.int (zI z)), some (.int (zI c))]) rfl ?_
  refine z_iload_1 dX2_putSign_0 ?_
  refine z_if_lt (tgt := 20) dX2_putSign_1 (by decide) (by omega) (fun c1 => by exfalso; omega) (fun c1 => ?_)
  refine z_iload_1 dX2_putSign_4 ?_
  refine z_aload_0 dX2_putSign_5 ?_
  refine z_getR (j := 2) dX2_putSign_6 zf_X2_18 rfl rfl ?_
  refine z_alenI dX2_putSign_9 rfl ?_
  refine z_top (b := 28800) rfl ?_
  refine z_icmp_ge (tgt := 20) dX2_putSign_10 (by decide) (by omega) ⟨by decide, by decide⟩ (fun c10 => by exfalso; omega) (fun c10 => ?_)
  refine z_aload_0 dX2_putSign_13 ?_
  refine z_getR (j := 2) dX2_putSign_14 zf_X2_18 rfl rfl ?_
  refine z_iload_1 dX2_putSign_17 ?_
  refine z_iload_2 dX2_putSign_18 ?_
  refine z_iast dX2_putSign_19 rfl (by decide) (by omega) (by omega) (by omega) ?_
  refine z_vret dX2_putSign_20 rfl ?_
  exact h
end
section
def zbc (x : Int64) (n i : Int) : Int := ((x.toUInt64 >>> ((zI (8 * ((n - 1) - i))).toInt64.toUInt64 &&& Int64.toUInt64 63)).toInt64.toInt32 &&& zI 255).toInt
theorem zbc_R (x : Int64) (n i : Int) : zR (zbc x n i) := zR_toInt _

set_option maxRecDepth 100000 in
theorem L_X2_append {G : zG} {σ : zSt} {Post : Option Value → zSt → Prop} (f n row len : Int) (x : Int64) (hR : zRg σ) (hf : zR f) (hn1 : 1 ≤ n) (hn8 : n ≤ 8) (hr0 : 0 ≤ row) (hr1 : row < 240) (hl0 : 0 ≤ len) (hl1 : len + n ≤ 120) (h : Post (some (.int (zI (len + n)))) (zsA (zsB σ 12 (row * 120 + len) n (zbc x n)) 11 row (len + n))) : ∀ (m : Nat) (i : Int) (hi0 : 0 ≤ i) (him : i + m = n), zV G shC mX2_append 65 [some (.ref (zad G 3)), some (.int (zI f)), some (.long x), none, some (.int (zI n)), some (.int (zI row)), some (.int (zI len)), some (.int (zI i))] [] (zsB σ 12 (row * 120 + len) i (zbc x n)) Post := by
  intro m
  induction m with
  | zero =>
    intro i hi0 him
    refine z_iload_7 dX2_append_65 ?_
    refine z_iload_4 dX2_append_67 ?_
    refine z_icmp_ge (tgt := 110) dX2_append_69 (by decide) (by omega) (by omega) (fun c69 => ?_) (fun c69 => by exfalso; omega)
    refine z_aload_0 dX2_append_110 ?_
    refine z_getR (j := 1) dX2_append_111 zf_X2_15 rfl rfl ?_
    refine z_iload_5 dX2_append_114 ?_
    refine z_iload_6 dX2_append_116 ?_
    refine z_iload_4 dX2_append_118 ?_
    refine z_iadd dX2_append_120 ?_
    refine z_iast dX2_append_121 rfl (by decide) (by omega) (by omega) (by omega) ?_
    refine z_iload_6 dX2_append_122 ?_
    refine z_iload_4 dX2_append_124 ?_
    refine z_iadd dX2_append_126 ?_
    refine z_iret dX2_append_127 rfl ?_
    have e : i = n := by omega
    subst e
    exact h
  | succ m ih =>
    intro i hi0 him
    refine z_iload_7 dX2_append_65 ?_
    refine z_iload_4 dX2_append_67 ?_
    refine z_icmp_ge (tgt := 110) dX2_append_69 (by decide) (by omega) (by omega) (fun c69 => by exfalso; omega) (fun c69 => ?_)
    refine z_aload_0 dX2_append_72 ?_
    refine z_iload_5 dX2_append_73 ?_
    refine z_bipush 120 dX2_append_75 (by decide +kernel) ?_
    refine z_imul dX2_append_77 ?_
    refine z_iload_6 dX2_append_78 ?_
    refine z_iadd dX2_append_80 ?_
    refine z_iload_7 dX2_append_81 ?_
    refine z_iadd dX2_append_83 ?_
    refine z_lloadN (i := 2) dX2_append_84 rfl rfl ?_
    refine z_bipush 8 dX2_append_85 (by decide +kernel) ?_
    refine z_iload_4 dX2_append_87 ?_
    refine z_iconst 1 dX2_append_89 rfl ?_
    refine z_isub dX2_append_90 ?_
    refine z_iload_7 dX2_append_91 ?_
    refine z_isub dX2_append_93 ?_
    refine z_imul dX2_append_94 ?_
    refine z_lushr dX2_append_95 ?_
    refine z_l2i dX2_append_96 ?_
    refine z_sipush 255 dX2_append_97 (by decide +kernel) ?_
    refine z_iand dX2_append_100 ?_
    refine z_norm ?_
    have w1 := zR_toInt (((x.toUInt64 >>> ((zI (8 * ((n - 1) - i))).toInt64.toUInt64 &&& Int64.toUInt64 63)).toInt64).toInt32 &&& zI 255)
    refine z_callV mX2_putSign [.int (zI (((row * 120) + len) + i)), .int (zI ((((x.toUInt64 >>> ((zI (8 * ((n - 1) - i))).toInt64.toUInt64 &&& Int64.toUInt64 63)).toInt64).toInt32 &&& zI 255).toInt))] dX2_append_101 zk_X2_putSign zl_X2_33 ⟨Nat.le_of_ble_eq_true rfl, Nat.le_of_ble_eq_true rfl⟩ rfl rfl (Nat.le_of_ble_eq_true rfl) (Nat.le_of_ble_eq_true rfl) ?_
    refine M_X2_putSign (((row * 120) + len) + i) ((((x.toUInt64 >>> ((zI (8 * ((n - 1) - i))).toInt64.toUInt64 &&& Int64.toUInt64 63)).toInt64).toInt32 &&& zI 255).toInt) (by omega) (by omega) (by omega) ?_
    refine z_b0 ?_
    refine z_iinc_7 dX2_append_104 (Nat.le_of_ble_eq_true rfl) rfl ?_
    refine z_goto (tgt := 65) dX2_append_107 (by decide) ?_
    exact z_st (zsB_S hi0 (by omega) rfl) (ih (i + 1) (by omega) (by omega))

set_option maxRecDepth 100000 in
theorem M_X2_append {G : zG} {σ : zSt} {Post : Option Value → zSt → Prop} (f n : Int) (x : Int64) (hf0 : 0 ≤ f) (hf : f < σ.1 3 3) (h8 : σ.1 3 3 ≤ 8) (hn1 : 1 ≤ n) (hn8 : n ≤ 8) (hc0 : 0 ≤ σ.2 10 f) (hc1 : σ.2 10 f ≤ 30) (hlr : ∀ r, 0 ≤ σ.2 11 r ∧ σ.2 11 r ≤ 120) (h3 : σ.2 10 f = 0 → Post (some (.int (zI (-3)))) σ) (h4 : 0 < σ.2 10 f → 120 < σ.2 11 (f * 30 + σ.2 10 f - 1) + n → Post (some (.int (zI (-4)))) σ) (h1 : 0 < σ.2 10 f → σ.2 11 (f * 30 + σ.2 10 f - 1) + n ≤ 120 → Post (some (.int (zI (σ.2 11 (f * 30 + σ.2 10 f - 1) + n)))) (zsA (zsB σ 12 ((f * 30 + σ.2 10 f - 1) * 120 + σ.2 11 (f * 30 + σ.2 10 f - 1)) n (zbc x n)) 11 (f * 30 + σ.2 10 f - 1) (σ.2 11 (f * 30 + σ.2 10 f - 1) + n))) : zV G shC mX2_append 0 (zini 8 [.ref (zad G 3), .int (zI f), .long x, .int (zI n)]) [] σ Post := by
  refine z_rg (fun hR => ?_)
  refine z_lv (lv' := [some (.ref (zad G 3)), some (.int (zI f)), some (.long x), none, some (.int (zI n)), none, none, none]) rfl ?_
  have hlr1 := hlr (f * 30 + σ.2 10 f - 1)
  refine z_iload_1 dX2_append_0 ?_
  refine z_bipush 30 dX2_append_1 (by decide +kernel) ?_
  refine z_imul dX2_append_3 ?_
  refine z_aload_0 dX2_append_4 ?_
  refine z_iload_1 dX2_append_5 ?_
  refine z_callV mX2_lineCount [.int (zI f)] dX2_append_6 zk_X2_lineCount zl_X2_29 ⟨Nat.le_of_ble_eq_true rfl, Nat.le_of_ble_eq_true rfl⟩ rfl rfl (Nat.le_of_ble_eq_true rfl) (Nat.le_of_ble_eq_true rfl) ?_
  refine M_X2_lineCount f (by omega) (by omega) (fun i1 i2 => ?_) (fun i1 => by exfalso; omega)
  refine z_b1 ?_
  have w1 : zR (σ.2 10 f) := hR.2 10 f
  refine z_iadd dX2_append_9 ?_
  refine z_iconst 1 dX2_append_10 rfl ?_
  refine z_isub dX2_append_11 ?_
  refine z_istore_5 dX2_append_12 (Nat.le_of_ble_eq_true rfl) rfl ?_
  refine z_aload_0 dX2_append_14 ?_
  refine z_iload_1 dX2_append_15 ?_
  refine z_callV mX2_lineCount [.int (zI f)] dX2_append_16 zk_X2_lineCount zl_X2_29 ⟨Nat.le_of_ble_eq_true rfl, Nat.le_of_ble_eq_true rfl⟩ rfl rfl (Nat.le_of_ble_eq_true rfl) (Nat.le_of_ble_eq_true rfl) ?_
  refine M_X2_lineCount f (by omega) (by omega) (fun i1 i2 => ?_) (fun i1 => by exfalso; omega)
  refine z_b1 ?_
  have w2 : zR (σ.2 10 f) := hR.2 10 f
  refine z_if_le (tgt := 37) dX2_append_19 (by decide) (by omega) (fun c19 => ?_) (fun c19 => ?_)
  · refine z_bipush (-3) dX2_append_37 (by decide +kernel) ?_
    refine z_iret dX2_append_39 rfl ?_
    exact h3 (by omega)
  · refine z_iload_5 dX2_append_22 ?_
    refine z_if_lt (tgt := 37) dX2_append_24 (by decide) (by omega) (fun c24 => by exfalso; omega) (fun c24 => ?_)
    refine z_iload_5 dX2_append_27 ?_
    refine z_aload_0 dX2_append_29 ?_
    refine z_getR (j := 1) dX2_append_30 zf_X2_15 rfl rfl ?_
    refine z_alenI dX2_append_33 rfl ?_
    refine z_top (b := 240) rfl ?_
    refine z_icmp_lt (tgt := 40) dX2_append_34 (by decide) (by omega) ⟨by decide, by decide⟩ (fun c34 => ?_) (fun c34 => by exfalso; omega)
    refine z_aload_0 dX2_append_40 ?_
    refine z_getR (j := 1) dX2_append_41 zf_X2_15 rfl rfl ?_
    refine z_iload_5 dX2_append_44 ?_
    refine z_iald dX2_append_46 rfl (by decide) (by omega) (by omega) ?_
    have w3 : zR (σ.2 11 (((f * 30) + (σ.2 10 f)) - 1)) := hR.2 11 (((f * 30) + (σ.2 10 f)) - 1)
    refine z_istore_6 dX2_append_47 (Nat.le_of_ble_eq_true rfl) rfl ?_
    refine z_iload_6 dX2_append_49 ?_
    refine z_iload_4 dX2_append_51 ?_
    refine z_iadd dX2_append_53 ?_
    refine z_bipush 120 dX2_append_54 (by decide +kernel) ?_
    refine z_icmp_le (tgt := 62) dX2_append_56 (by decide) (by omega) ⟨by decide, by decide⟩ (fun c56 => ?_) (fun c56 => ?_)
    · refine z_iconst 0 dX2_append_62 rfl ?_
      refine z_istore_7 dX2_append_63 (Nat.le_of_ble_eq_true rfl) rfl ?_
      exact z_st zsB_0.symm (L_X2_append _ _ _ _ _ hR (by omega) hn1 hn8 (by omega) (by omega) (by omega) (by omega) (h1 (by omega) (by omega)) n.toNat 0 (by omega) (by omega))
    · refine z_bipush (-4) dX2_append_59 (by decide +kernel) ?_
      refine z_iret dX2_append_61 rfl ?_
      exact h4 (by omega) (by omega)

def ztr (g : Int → Int) : Nat → Nat
  | 0 => 0
  | n + 1 => if g n = 32 then ztr g n else n + 1
theorem ztr_eq {g : Int → Int} {n : Nat} (h : g n = 32) : ztr g (n + 1) = ztr g n := if_pos h
theorem ztr_ne {g : Int → Int} {n : Nat} (h : g n ≠ 32) : ztr g (n + 1) = n + 1 := if_neg h
theorem ztr_le (g : Int → Int) : ∀ n, ztr g n ≤ n
  | 0 => Nat.le_refl 0
  | n + 1 => by rw [ztr]; split; exact Nat.le_succ_of_le (ztr_le g n); exact Nat.le_refl _

set_option maxRecDepth 100000 in
theorem L_X2_copy1 {G : zG} {σ : zSt} {Post : Option Value → zSt → Prop} (f l row fr : Int) (t : Nat) (ht : t < 6) (hR : zRg σ) (hf : 0 ≤ fr) (hf1 : fr + 120 ≤ 28800) : ∀ (m : Nat) (L : Int) (hL : L = (m : Int)) (hm : m ≤ 120) (h : zV G shC mX2_copyLine 76 [some (.ref (zad G 3)), some (.int (zI f)), some (.int (zI l)), some (.ref (zad G (24 + t))), some (.int (zI row)), some (.int (zI fr)), some (.int (zI ((ztr (fun q => σ.2 12 (fr + q)) m : Nat) : Int))), none] [] σ Post), zV G shC mX2_copyLine 49 [some (.ref (zad G 3)), some (.int (zI f)), some (.int (zI l)), some (.ref (zad G (24 + t))), some (.int (zI row)), some (.int (zI fr)), some (.int (zI L)), none] [] σ Post := by
  intro m
  induction m with
  | zero =>
    intro L hL hm h
    refine z_iload_6 dX2_copyLine_49 ?_
    refine z_if_le (tgt := 76) dX2_copyLine_51 (by decide) (by omega) (fun c51 => ?_) (fun c51 => by exfalso; omega)
    have e : ((ztr (fun q => σ.2 12 (fr + q)) 0 : Nat) : Int) = L := by rw [ztr]; omega
    rw [e] at h
    exact h
  | succ m ih =>
    intro L hL hm h
    refine z_iload_6 dX2_copyLine_49 ?_
    refine z_if_le (tgt := 76) dX2_copyLine_51 (by decide) (by omega) (fun c51 => by exfalso; omega) (fun c51 => ?_)
    refine z_aload_0 dX2_copyLine_54 ?_
    refine z_iload_5 dX2_copyLine_55 ?_
    refine z_iload_6 dX2_copyLine_57 ?_
    refine z_iadd dX2_copyLine_59 ?_
    refine z_iconst 1 dX2_copyLine_60 rfl ?_
    refine z_isub dX2_copyLine_61 ?_
    refine z_callV mX2_signAt [.int (zI ((fr + L) - 1))] dX2_copyLine_62 zk_X2_signAt zl_X2_37 ⟨Nat.le_of_ble_eq_true rfl, Nat.le_of_ble_eq_true rfl⟩ rfl rfl (Nat.le_of_ble_eq_true rfl) (Nat.le_of_ble_eq_true rfl) ?_
    refine M_X2_signAt ((fr + L) - 1) (by omega) (by omega) ?_
    refine z_b1 ?_
    have w1 : zR (σ.2 12 ((fr + L) - 1)) := hR.2 12 ((fr + L) - 1)
    refine z_bipush 32 dX2_copyLine_65 (by decide +kernel) ?_
    refine z_icmp_ne (tgt := 76) dX2_copyLine_67 (by decide) (by omega) ⟨by decide, by decide⟩ (fun c67 => ?_) (fun c67 => ?_)
    · have e0 : σ.2 12 (fr + (m : Int)) ≠ 32 := by rw [show fr + (m : Int) = fr + L - 1 by omega]; omega
      have e : ((ztr (fun q => σ.2 12 (fr + q)) (m + 1) : Nat) : Int) = L := by rw [ztr_ne e0]; omega
      rw [e] at h
      exact h
    · refine z_iinc_6 dX2_copyLine_70 (Nat.le_of_ble_eq_true rfl) rfl ?_
      refine z_goto (tgt := 49) dX2_copyLine_73 (by decide) ?_
      have e0 : σ.2 12 (fr + (m : Int)) = 32 := by rw [show fr + (m : Int) = fr + L - 1 by omega]; omega
      rw [ztr_eq e0] at h
      exact ih (L + (-1)) (by omega) (by omega) h

set_option maxRecDepth 100000 in
theorem L_X2_copy2 {G : zG} {σ : zSt} {Post : Option Value → zSt → Prop} (f l row fr L : Int) (t : Nat) (ht : t < 6) (hR : zRg σ) (hf : 0 ≤ fr) (hf1 : fr + 120 ≤ 28800) (hL0 : 0 ≤ L) (hL : L ≤ 120) (h : Post (some (.int (zI L))) (zsB σ (24 + t) 0 L (fun q => σ.2 12 (fr + q)))) : ∀ (m : Nat) (i : Int) (hi0 : 0 ≤ i) (him : i + m = L), zV G shC mX2_copyLine 79 [some (.ref (zad G 3)), some (.int (zI f)), some (.int (zI l)), some (.ref (zad G (24 + t))), some (.int (zI row)), some (.int (zI fr)), some (.int (zI L)), some (.int (zI i))] [] (zsB σ (24 + t) 0 i (fun q => σ.2 12 (fr + q))) Post := by
  intro m
  induction m with
  | zero =>
    intro i hi0 him
    refine z_iload_7 dX2_copyLine_79 ?_
    refine z_iload_6 dX2_copyLine_81 ?_
    refine z_icmp_ge (tgt := 112) dX2_copyLine_83 (by decide) (by omega) (by omega) (fun c83 => ?_) (fun c83 => by exfalso; omega)
    refine z_iload_6 dX2_copyLine_112 ?_
    refine z_iret dX2_copyLine_114 rfl ?_
    have e : i = L := by omega
    subst e
    exact h
  | succ m ih =>
    intro i hi0 him
    refine z_iload_7 dX2_copyLine_79 ?_
    refine z_iload_6 dX2_copyLine_81 ?_
    refine z_icmp_ge (tgt := 112) dX2_copyLine_83 (by decide) (by omega) (by omega) (fun c83 => by exfalso; omega) (fun c83 => ?_)
    refine z_iload_7 dX2_copyLine_86 ?_
    refine z_aload_3 dX2_copyLine_88 ?_
    refine z_alenI dX2_copyLine_89 (shC_la ht) ?_
    refine z_top (b := 121) rfl ?_
    refine z_icmp_ge (tgt := 112) dX2_copyLine_90 (by decide) (by omega) ⟨by decide, by decide⟩ (fun c90 => by exfalso; omega) (fun c90 => ?_)
    refine z_aload_3 dX2_copyLine_93 ?_
    refine z_iload_7 dX2_copyLine_94 ?_
    refine z_aload_0 dX2_copyLine_96 ?_
    refine z_iload_5 dX2_copyLine_97 ?_
    refine z_iload_7 dX2_copyLine_99 ?_
    refine z_iadd dX2_copyLine_101 ?_
    refine z_callV mX2_signAt [.int (zI (fr + i))] dX2_copyLine_102 zk_X2_signAt zl_X2_37 ⟨Nat.le_of_ble_eq_true rfl, Nat.le_of_ble_eq_true rfl⟩ rfl rfl (Nat.le_of_ble_eq_true rfl) (Nat.le_of_ble_eq_true rfl) ?_
    refine M_X2_signAt (fr + i) (by omega) (by omega) ?_
    refine z_b1 ?_
    refine z_top (b := σ.2 12 (fr + i)) (zsB_ne1 (by omega)) ?_
    have w1 : zR (σ.2 12 (fr + i)) := hR.2 12 (fr + i)
    refine z_iast dX2_copyLine_105 (shC_la ht) (by decide) (by omega) (by omega) (by omega) ?_
    refine z_iinc_7 dX2_copyLine_106 (Nat.le_of_ble_eq_true rfl) rfl ?_
    refine z_goto (tgt := 79) dX2_copyLine_109 (by decide) ?_
    exact z_st (zsB_S hi0 (by omega) rfl) (ih (i + 1) (by omega) (by omega))

set_option maxRecDepth 100000 in
theorem M_X2_copyLine {G : zG} {σ : zSt} {Post : Option Value → zSt → Prop} (f l : Int) (t : Nat) (ht : t < 6) (hf0 : 0 ≤ f) (hf : f < σ.1 3 3) (h8 : σ.1 3 3 ≤ 8) (hl0 : 0 ≤ l) (hl : l < σ.2 10 f) (hc1 : σ.2 10 f ≤ 30) (hlr : ∀ r, 0 ≤ σ.2 11 r ∧ σ.2 11 r ≤ 120) (h : Post (some (.int (zI ((ztr (fun q => σ.2 12 ((f * 30 + l) * 120 + q)) (σ.2 11 (f * 30 + l)).toNat : Nat) : Int)))) (zsB σ (24 + t) 0 ((ztr (fun q => σ.2 12 ((f * 30 + l) * 120 + q)) (σ.2 11 (f * 30 + l)).toNat : Nat) : Int) (fun q => σ.2 12 ((f * 30 + l) * 120 + q)))) : zV G shC mX2_copyLine 0 (zini 8 [.ref (zad G 3), .int (zI f), .int (zI l), .ref (zad G (24 + t))]) [] σ Post := by
  refine z_rg (fun hR => ?_)
  refine z_lv (lv' := [some (.ref (zad G 3)), some (.int (zI f)), some (.int (zI l)), some (.ref (zad G (24 + t))), none, none, none, none]) rfl ?_
  have hlr1 := hlr (f * 30 + l)
  refine z_iload_1 dX2_copyLine_0 ?_
  refine z_bipush 30 dX2_copyLine_1 (by decide +kernel) ?_
  refine z_imul dX2_copyLine_3 ?_
  refine z_iload_2 dX2_copyLine_4 ?_
  refine z_iadd dX2_copyLine_5 ?_
  refine z_istore_4 dX2_copyLine_6 (Nat.le_of_ble_eq_true rfl) rfl ?_
  refine z_iload_2 dX2_copyLine_8 ?_
  refine z_if_lt (tgt := 31) dX2_copyLine_9 (by decide) (by omega) (fun c9 => by exfalso; omega) (fun c9 => ?_)
  refine z_iload_2 dX2_copyLine_12 ?_
  refine z_aload_0 dX2_copyLine_13 ?_
  refine z_iload_1 dX2_copyLine_14 ?_
  refine z_callV mX2_lineCount [.int (zI f)] dX2_copyLine_15 zk_X2_lineCount zl_X2_29 ⟨Nat.le_of_ble_eq_true rfl, Nat.le_of_ble_eq_true rfl⟩ rfl rfl (Nat.le_of_ble_eq_true rfl) (Nat.le_of_ble_eq_true rfl) ?_
  refine M_X2_lineCount f (by omega) (by omega) (fun i1 i2 => ?_) (fun i1 => by exfalso; omega)
  refine z_b1 ?_
  have w1 : zR (σ.2 10 f) := hR.2 10 f
  refine z_icmp_ge (tgt := 31) dX2_copyLine_18 (by decide) (by omega) (by omega) (fun c18 => by exfalso; omega) (fun c18 => ?_)
  refine z_iload_4 dX2_copyLine_21 ?_
  refine z_aload_0 dX2_copyLine_23 ?_
  refine z_getR (j := 1) dX2_copyLine_24 zf_X2_15 rfl rfl ?_
  refine z_alenI dX2_copyLine_27 rfl ?_
  refine z_top (b := 240) rfl ?_
  refine z_icmp_lt (tgt := 33) dX2_copyLine_28 (by decide) (by omega) ⟨by decide, by decide⟩ (fun c28 => ?_) (fun c28 => by exfalso; omega)
  refine z_iload_4 dX2_copyLine_33 ?_
  refine z_bipush 120 dX2_copyLine_35 (by decide +kernel) ?_
  refine z_imul dX2_copyLine_37 ?_
  refine z_istore_5 dX2_copyLine_38 (Nat.le_of_ble_eq_true rfl) rfl ?_
  refine z_aload_0 dX2_copyLine_40 ?_
  refine z_getR (j := 1) dX2_copyLine_41 zf_X2_15 rfl rfl ?_
  refine z_iload_4 dX2_copyLine_44 ?_
  refine z_iald dX2_copyLine_46 rfl (by decide) (by omega) (by omega) ?_
  have w2 : zR (σ.2 11 ((f * 30) + l)) := hR.2 11 ((f * 30) + l)
  refine z_istore_6 dX2_copyLine_47 (Nat.le_of_ble_eq_true rfl) rfl ?_
  have hz := ztr_le (fun q => σ.2 12 ((f * 30 + l) * 120 + q)) (σ.2 11 (f * 30 + l)).toNat
  refine L_X2_copy1 f l (f * 30 + l) ((f * 30 + l) * 120) t ht hR (by omega) (by omega) (σ.2 11 (f * 30 + l)).toNat (σ.2 11 (f * 30 + l)) (by omega) (by omega) ?_
  refine z_iconst 0 dX2_copyLine_76 rfl ?_
  refine z_istore_7 dX2_copyLine_77 (Nat.le_of_ble_eq_true rfl) rfl ?_
  exact z_st zsB_0.symm (L_X2_copy2 f l (f * 30 + l) ((f * 30 + l) * 120) _ t ht hR (by omega) (by omega) (by omega) (by omega) h (ztr (fun q => σ.2 12 ((f * 30 + l) * 120 + q)) (σ.2 11 (f * 30 + l)).toNat) 0 (by omega) (by omega))

def zseeP (cats row : Int → Int) (len s b : Int) : Prop := zat cats s = 7 ∧ zst row len b = s ∧ 0 ≤ zst row len (b + 1) ∧ zst row len (b + 1) < 128
theorem zst_lt {row : Int → Int} {len p : Int} (h : 0 ≤ zst row len p) : 0 ≤ p ∧ p < len := by unfold zst at h; split at h <;> omega
def zsee (cats row : Int → Int) (len : Int) : Nat → Int → Int → Int × Int
  | 0, s, b => (s, b)
  | n + 1, s, b => if zat cats s = 7 ∧ zst row len b = s ∧ 0 ≤ zst row len (b + 1) ∧ zst row len (b + 1) < 128 then (if 0 ≤ zdig (zst row len (b + 1)) ∧ 0 ≤ zdig (zst row len (b + 2)) then zsee cats row len n (16 * zdig (zst row len (b + 1)) + zdig (zst row len (b + 2))) (b + 3) else zsee cats row len n (if zst row len (b + 1) < 64 then zst row len (b + 1) + 64 else zst row len (b + 1) - 64) (b + 2)) else (s, b)

section zSee
variable {cats row : Int → Int} {len s b : Int} {n : Nat}
theorem zsee_0 (h : ¬ zseeP cats row len s b) : zsee cats row len n s b = (s, b) := by
  cases n with
  | zero => rfl
  | succ n => exact if_neg h
theorem zsee_1 (h : zseeP cats row len s b) (h1 : 0 ≤ zdig (zst row len (b + 1))) (h2 : 0 ≤ zdig (zst row len (b + 2))) : zsee cats row len (n + 1) s b = zsee cats row len n (16 * zdig (zst row len (b + 1)) + zdig (zst row len (b + 2))) (b + 3) := (if_pos h).trans (if_pos ⟨h1, h2⟩)
theorem zsee_2 (h : zseeP cats row len s b) (h1 : ¬ (0 ≤ zdig (zst row len (b + 1)) ∧ 0 ≤ zdig (zst row len (b + 2)))) (h2 : zst row len (b + 1) < 64) : zsee cats row len (n + 1) s b = zsee cats row len n (zst row len (b + 1) + 64) (b + 2) := (if_pos h).trans ((if_neg h1).trans (congrArg (fun q => zsee cats row len n q (b + 2)) (if_pos h2)))
theorem zsee_3 (h : zseeP cats row len s b) (h1 : ¬ (0 ≤ zdig (zst row len (b + 1)) ∧ 0 ≤ zdig (zst row len (b + 2)))) (h2 : 64 ≤ zst row len (b + 1)) : zsee cats row len (n + 1) s b = zsee cats row len n (zst row len (b + 1) - 64) (b + 2) := (if_pos h).trans ((if_neg h1).trans (congrArg (fun q => zsee cats row len n q (b + 2)) (if_neg (by omega))))
end zSee
theorem zsF_2 {σ : zSt} {i j k : Nat} {s b s' b' : Int} (h : j ≠ k) : zsF (zsF (zsF (zsF σ i j s) i k b) i j s') i k b' = zsF (zsF σ i j s') i k b' := by
  refine Prod.ext (funext fun a => funext fun c => ?_) rfl
  show (if a = i ∧ c = k then b' else if a = i ∧ c = j then s' else if a = i ∧ c = k then b else if a = i ∧ c = j then s else σ.1 a c) = (if a = i ∧ c = k then b' else if a = i ∧ c = j then s' else σ.1 a c)
  by_cases h1 : a = i ∧ c = k
  · rw [if_pos h1, if_pos h1]
  · by_cases h2 : a = i ∧ c = j
    · rw [if_neg h1, if_pos h2, if_neg h1, if_pos h2]
    · rw [if_neg h1, if_neg h2, if_neg h1, if_neg h2, if_neg h1, if_neg h2]
theorem zsF_neg1 {σ : zSt} {i j k : Nat} {s b s' : Int} (h : j ≠ k) : zsF (zsF (zsF σ i j s) i k b) i j s' = zsF (zsF σ i j s') i k b := by
  refine Prod.ext (funext fun a => funext fun c => ?_) rfl
  show (if a = i ∧ c = j then s' else if a = i ∧ c = k then b else if a = i ∧ c = j then s else σ.1 a c) = (if a = i ∧ c = k then b else if a = i ∧ c = j then s' else σ.1 a c)
  by_cases h1 : a = i ∧ c = k
  · rw [if_neg (fun q => h (q.2.symm.trans h1.2)), if_pos h1, if_pos h1]
  · by_cases h2 : a = i ∧ c = j
    · rw [if_pos h2, if_neg h1, if_pos h2]
    · rw [if_neg h2, if_neg h1, if_neg h2, if_neg h1, if_neg h2]

set_option maxRecDepth 100000 in
theorem M_X1_tellsAnother {G : zG} {σ : zSt} {Post : Option Value → zSt → Prop} (t : Nat) (ht : t < 6) (hl : σ.1 (18 + t) 5 ≤ 121) (hb0 : 0 ≤ σ.1 (18 + t) 9) (hb1 : σ.1 (18 + t) 9 ≤ 200) (h1 : zseeP (σ.2 8) (σ.2 (24 + t)) (σ.1 (18 + t) 5) (σ.1 (18 + t) 8) (σ.1 (18 + t) 9) → Post (some (.int (zI 1))) σ) (h0 : ¬ zseeP (σ.2 8) (σ.2 (24 + t)) (σ.1 (18 + t) 5) (σ.1 (18 + t) 8) (σ.1 (18 + t) 9) → Post (some (.int (zI 0))) σ) : zV G shC mX1_tellsAnother 0 (zini 3 [.ref (zad G (18 + t)), .ref (zad G 1)]) [] σ Post := by
  refine z_rg (fun hR => ?_)
  refine z_lv (lv' := [some (.ref (zad G (18 + t))), some (.ref (zad G 1)), none]) rfl ?_
  refine z_aload_1 dX1_tellsAnother_0 ?_
  refine z_aload_0 dX1_tellsAnother_1 ?_
  refine z_getI (j := 8) dX1_tellsAnother_2 zf_X1_48 (shC_lv ht) rfl ?_
  have w1 : zR (σ.1 (18 + t) 8) := hR.1 (18 + t) 8
  refine z_callV mX0_at [.int (zI (σ.1 (18 + t) 8))] dX1_tellsAnother_5 zk_X0_at zl_X1_61 ⟨Nat.le_of_ble_eq_true rfl, Nat.le_of_ble_eq_true rfl⟩ rfl rfl (Nat.le_of_ble_eq_true rfl) (Nat.le_of_ble_eq_true rfl) ?_
  refine M_X0_at (σ.1 (18 + t) 8) (by omega) ?_
  refine z_b1 ?_
  have w2 := zat_R (σ.2 8) (σ.1 (18 + t) 8) (fun q => hR.2 8 q)
  refine z_bipush 7 dX1_tellsAnother_8 (by decide +kernel) ?_
  refine z_icmp_ne (tgt := 28) dX1_tellsAnother_10 (by decide) (by omega) ⟨by decide, by decide⟩ (fun c10 => ?_) (fun c10 => ?_)
  · refine z_iconst 0 dX1_tellsAnother_28 rfl ?_
    refine z_zret dX1_tellsAnother_29 rfl (Or.inl rfl) ?_
    exact h0 (by unfold zseeP; omega)
  · refine z_aload_0 dX1_tellsAnother_13 ?_
    refine z_aload_0 dX1_tellsAnother_14 ?_
    refine z_getI (j := 9) dX1_tellsAnother_15 zf_X1_51 (shC_lv ht) rfl ?_
    have w3 : zR (σ.1 (18 + t) 9) := hR.1 (18 + t) 9
    refine z_callV mX1_standing [.int (zI (σ.1 (18 + t) 9))] dX1_tellsAnother_18 zk_X1_standing zl_X1_44 ⟨Nat.le_of_ble_eq_true rfl, Nat.le_of_ble_eq_true rfl⟩ (shC_lv ht) rfl (Nat.le_of_ble_eq_true rfl) (Nat.le_of_ble_eq_true rfl) ?_
    refine M_X1_standing t (σ.1 (18 + t) 9) ht (by omega) (by omega) ?_
    refine z_b1 ?_
    have w4 := zst_R (σ.2 (24 + t)) (σ.1 (18 + t) 5) (σ.1 (18 + t) 9) (fun q => hR.2 (24 + t) q)
    refine z_aload_0 dX1_tellsAnother_21 ?_
    refine z_getI (j := 8) dX1_tellsAnother_22 zf_X1_48 (shC_lv ht) rfl ?_
    have w5 : zR (σ.1 (18 + t) 8) := hR.1 (18 + t) 8
    refine z_icmp_eq (tgt := 30) dX1_tellsAnother_25 (by decide) (by omega) (by omega) (fun c25 => ?_) (fun c25 => ?_)
    · refine z_aload_0 dX1_tellsAnother_30 ?_
      refine z_aload_0 dX1_tellsAnother_31 ?_
      refine z_getI (j := 9) dX1_tellsAnother_32 zf_X1_51 (shC_lv ht) rfl ?_
      have w6 : zR (σ.1 (18 + t) 9) := hR.1 (18 + t) 9
      refine z_iconst 1 dX1_tellsAnother_35 rfl ?_
      refine z_iadd dX1_tellsAnother_36 ?_
      refine z_callV mX1_standing [.int (zI ((σ.1 (18 + t) 9) + 1))] dX1_tellsAnother_37 zk_X1_standing zl_X1_44 ⟨Nat.le_of_ble_eq_true rfl, Nat.le_of_ble_eq_true rfl⟩ (shC_lv ht) rfl (Nat.le_of_ble_eq_true rfl) (Nat.le_of_ble_eq_true rfl) ?_
      refine M_X1_standing t ((σ.1 (18 + t) 9) + 1) ht (by omega) (by omega) ?_
      refine z_b1 ?_
      have w7 := zst_R (σ.2 (24 + t)) (σ.1 (18 + t) 5) ((σ.1 (18 + t) 9) + 1) (fun q => hR.2 (24 + t) q)
      refine z_istore_2 dX1_tellsAnother_40 (Nat.le_of_ble_eq_true rfl) rfl ?_
      refine z_iload_2 dX1_tellsAnother_41 ?_
      refine z_if_lt (tgt := 56) dX1_tellsAnother_42 (by decide) (by omega) (fun c42 => ?_) (fun c42 => ?_)
      · refine z_iconst 0 dX1_tellsAnother_56 rfl ?_
        refine z_zret dX1_tellsAnother_57 rfl (Or.inl rfl) ?_
        exact h0 (by unfold zseeP; omega)
      · refine z_iload_2 dX1_tellsAnother_45 ?_
        refine z_sipush 128 dX1_tellsAnother_46 (by decide +kernel) ?_
        refine z_icmp_ge (tgt := 56) dX1_tellsAnother_49 (by decide) (by omega) ⟨by decide, by decide⟩ (fun c49 => ?_) (fun c49 => ?_)
        · refine z_iconst 0 dX1_tellsAnother_56 rfl ?_
          refine z_zret dX1_tellsAnother_57 rfl (Or.inl rfl) ?_
          exact h0 (by unfold zseeP; omega)
        · refine z_iconst 1 dX1_tellsAnother_52 rfl ?_
          refine z_goto (tgt := 57) dX1_tellsAnother_53 (by decide) ?_
          refine z_zret dX1_tellsAnother_57 rfl (Or.inr rfl) ?_
          exact h1 ⟨by omega, by omega, by omega, by omega⟩
    · refine z_iconst 0 dX1_tellsAnother_28 rfl ?_
      refine z_zret dX1_tellsAnother_29 rfl (Or.inl rfl) ?_
      exact h0 (by unfold zseeP; omega)

set_option maxRecDepth 100000 in
theorem M_X1_tellAnother {G : zG} {σ : zSt} {Post : Option Value → zSt → Prop} (t : Nat) (ht : t < 6) (hl : σ.1 (18 + t) 5 ≤ 121) (hb0 : 0 ≤ σ.1 (18 + t) 9) (hb1 : σ.1 (18 + t) 9 ≤ 200) (hp : zseeP (σ.2 8) (σ.2 (24 + t)) (σ.1 (18 + t) 5) (σ.1 (18 + t) 8) (σ.1 (18 + t) 9)) (h1 : 0 ≤ zdig (zst (σ.2 (24 + t)) (σ.1 (18 + t) 5) (σ.1 (18 + t) 9 + 1)) → 0 ≤ zdig (zst (σ.2 (24 + t)) (σ.1 (18 + t) 5) (σ.1 (18 + t) 9 + 2)) → Post none (zsF (zsF σ (18 + t) 8 (16 * zdig (zst (σ.2 (24 + t)) (σ.1 (18 + t) 5) (σ.1 (18 + t) 9 + 1)) + zdig (zst (σ.2 (24 + t)) (σ.1 (18 + t) 5) (σ.1 (18 + t) 9 + 2)))) (18 + t) 9 (σ.1 (18 + t) 9 + 3))) (h2 : ¬ (0 ≤ zdig (zst (σ.2 (24 + t)) (σ.1 (18 + t) 5) (σ.1 (18 + t) 9 + 1)) ∧ 0 ≤ zdig (zst (σ.2 (24 + t)) (σ.1 (18 + t) 5) (σ.1 (18 + t) 9 + 2))) → zst (σ.2 (24 + t)) (σ.1 (18 + t) 5) (σ.1 (18 + t) 9 + 1) < 64 → Post none (zsF (zsF σ (18 + t) 8 (zst (σ.2 (24 + t)) (σ.1 (18 + t) 5) (σ.1 (18 + t) 9 + 1) + 64)) (18 + t) 9 (σ.1 (18 + t) 9 + 2))) (h3 : ¬ (0 ≤ zdig (zst (σ.2 (24 + t)) (σ.1 (18 + t) 5) (σ.1 (18 + t) 9 + 1)) ∧ 0 ≤ zdig (zst (σ.2 (24 + t)) (σ.1 (18 + t) 5) (σ.1 (18 + t) 9 + 2))) → 64 ≤ zst (σ.2 (24 + t)) (σ.1 (18 + t) 5) (σ.1 (18 + t) 9 + 1) → Post none (zsF (zsF σ (18 + t) 8 (zst (σ.2 (24 + t)) (σ.1 (18 + t) 5) (σ.1 (18 + t) 9 + 1) - 64)) (18 + t) 9 (σ.1 (18 + t) 9 + 2))) : zV G shC mX1_tellAnother 0 (zini 4 [.ref (zad G (18 + t))]) [] σ Post := by
  refine z_rg (fun hR => ?_)
  refine z_lv (lv' := [some (.ref (zad G (18 + t))), none, none, none]) rfl ?_
  obtain ⟨hp1, hp2, hp3, hp4⟩ := hp
  refine z_aload_0 dX1_tellAnother_0 ?_
  refine z_aload_0 dX1_tellAnother_1 ?_
  refine z_getI (j := 9) dX1_tellAnother_2 zf_X1_51 (shC_lv ht) rfl ?_
  have w1 : zR (σ.1 (18 + t) 9) := hR.1 (18 + t) 9
  refine z_iconst 1 dX1_tellAnother_5 rfl ?_
  refine z_iadd dX1_tellAnother_6 ?_
  refine z_callV mX1_standing [.int (zI ((σ.1 (18 + t) 9) + 1))] dX1_tellAnother_7 zk_X1_standing zl_X1_44 ⟨Nat.le_of_ble_eq_true rfl, Nat.le_of_ble_eq_true rfl⟩ (shC_lv ht) rfl (Nat.le_of_ble_eq_true rfl) (Nat.le_of_ble_eq_true rfl) ?_
  refine M_X1_standing t ((σ.1 (18 + t) 9) + 1) ht (by omega) (by omega) ?_
  refine z_b1 ?_
  have w2 := zst_R (σ.2 (24 + t)) (σ.1 (18 + t) 5) ((σ.1 (18 + t) 9) + 1) (fun q => hR.2 (24 + t) q)
  refine z_istore_1 dX1_tellAnother_10 (Nat.le_of_ble_eq_true rfl) rfl ?_
  refine z_iload_1 dX1_tellAnother_11 ?_
  refine z_callS mX1_digit [.int (zI (zst (σ.2 (24 + t)) (σ.1 (18 + t) 5) ((σ.1 (18 + t) 9) + 1)))] dX1_tellAnother_12 zk_X1_digit zl_X1_66 ⟨Nat.le_of_ble_eq_true rfl, Nat.le_of_ble_eq_true rfl⟩ (Nat.le_of_ble_eq_true rfl) (Nat.le_of_ble_eq_true rfl) ?_
  refine M_X1_digit (zst (σ.2 (24 + t)) (σ.1 (18 + t) 5) ((σ.1 (18 + t) 9) + 1)) (by omega) ?_
  refine z_b1 ?_
  have w3 := zdig_R (zst (σ.2 (24 + t)) (σ.1 (18 + t) 5) ((σ.1 (18 + t) 9) + 1))
  refine z_istore_2 dX1_tellAnother_15 (Nat.le_of_ble_eq_true rfl) rfl ?_
  refine z_aload_0 dX1_tellAnother_16 ?_
  refine z_aload_0 dX1_tellAnother_17 ?_
  refine z_getI (j := 9) dX1_tellAnother_18 zf_X1_51 (shC_lv ht) rfl ?_
  have w4 : zR (σ.1 (18 + t) 9) := hR.1 (18 + t) 9
  refine z_iconst 2 dX1_tellAnother_21 rfl ?_
  refine z_iadd dX1_tellAnother_22 ?_
  refine z_callV mX1_standing [.int (zI ((σ.1 (18 + t) 9) + 2))] dX1_tellAnother_23 zk_X1_standing zl_X1_44 ⟨Nat.le_of_ble_eq_true rfl, Nat.le_of_ble_eq_true rfl⟩ (shC_lv ht) rfl (Nat.le_of_ble_eq_true rfl) (Nat.le_of_ble_eq_true rfl) ?_
  refine M_X1_standing t ((σ.1 (18 + t) 9) + 2) ht (by omega) (by omega) ?_
  refine z_b1 ?_
  have w5 := zst_R (σ.2 (24 + t)) (σ.1 (18 + t) 5) ((σ.1 (18 + t) 9) + 2) (fun q => hR.2 (24 + t) q)
  refine z_callS mX1_digit [.int (zI (zst (σ.2 (24 + t)) (σ.1 (18 + t) 5) ((σ.1 (18 + t) 9) + 2)))] dX1_tellAnother_26 zk_X1_digit zl_X1_66 ⟨Nat.le_of_ble_eq_true rfl, Nat.le_of_ble_eq_true rfl⟩ (Nat.le_of_ble_eq_true rfl) (Nat.le_of_ble_eq_true rfl) ?_
  refine M_X1_digit (zst (σ.2 (24 + t)) (σ.1 (18 + t) 5) ((σ.1 (18 + t) 9) + 2)) (by omega) ?_
  refine z_b1 ?_
  have w6 := zdig_R (zst (σ.2 (24 + t)) (σ.1 (18 + t) 5) ((σ.1 (18 + t) 9) + 2))
  refine z_istore_3 dX1_tellAnother_29 (Nat.le_of_ble_eq_true rfl) rfl ?_
  refine z_iload_2 dX1_tellAnother_30 ?_
  refine z_if_lt (tgt := 61) dX1_tellAnother_31 (by decide) (by omega) (fun c31 => ?_) (fun c31 => ?_)
  · refine z_aload_0 dX1_tellAnother_61 ?_
    refine z_iload_1 dX1_tellAnother_62 ?_
    refine z_bipush 64 dX1_tellAnother_63 (by decide +kernel) ?_
    refine z_icmp_ge (tgt := 75) dX1_tellAnother_65 (by decide) (by omega) ⟨by decide, by decide⟩ (fun c65 => ?_) (fun c65 => ?_)
    · refine z_iload_1 dX1_tellAnother_75 ?_
      refine z_bipush 64 dX1_tellAnother_76 (by decide +kernel) ?_
      refine z_isub dX1_tellAnother_78 ?_
      refine z_putI (j := 8) dX1_tellAnother_79 zp_X1_48 (shC_lv ht) rfl (by omega) ?_
      refine z_aload_0 dX1_tellAnother_82 ?_
      refine z_dup dX1_tellAnother_83 rfl ?_
      refine z_getI (j := 9) dX1_tellAnother_84 zf_X1_51 (shC_lv ht) rfl ?_
      refine z_top (b := σ.1 (18 + t) 9) (zsF_ne (by omega)) ?_
      have w7 : zR (σ.1 (18 + t) 9) := hR.1 (18 + t) 9
      refine z_iconst 2 dX1_tellAnother_87 rfl ?_
      refine z_iadd dX1_tellAnother_88 ?_
      refine z_putI (j := 9) dX1_tellAnother_89 zp_X1_51 (shC_lv ht) rfl (by omega) ?_
      refine z_vret dX1_tellAnother_92 rfl ?_
      first | exact h1 (by omega) (by omega) | exact h2 (by omega) (by omega) | exact h3 (by omega) (by omega)
    · refine z_iload_1 dX1_tellAnother_68 ?_
      refine z_bipush 64 dX1_tellAnother_69 (by decide +kernel) ?_
      refine z_iadd dX1_tellAnother_71 ?_
      refine z_goto (tgt := 79) dX1_tellAnother_72 (by decide) ?_
      refine z_putI (j := 8) dX1_tellAnother_79 zp_X1_48 (shC_lv ht) rfl (by omega) ?_
      refine z_aload_0 dX1_tellAnother_82 ?_
      refine z_dup dX1_tellAnother_83 rfl ?_
      refine z_getI (j := 9) dX1_tellAnother_84 zf_X1_51 (shC_lv ht) rfl ?_
      refine z_top (b := σ.1 (18 + t) 9) (zsF_ne (by omega)) ?_
      have w8 : zR (σ.1 (18 + t) 9) := hR.1 (18 + t) 9
      refine z_iconst 2 dX1_tellAnother_87 rfl ?_
      refine z_iadd dX1_tellAnother_88 ?_
      refine z_putI (j := 9) dX1_tellAnother_89 zp_X1_51 (shC_lv ht) rfl (by omega) ?_
      refine z_vret dX1_tellAnother_92 rfl ?_
      first | exact h1 (by omega) (by omega) | exact h2 (by omega) (by omega) | exact h3 (by omega) (by omega)
  · refine z_iload_3 dX1_tellAnother_34 ?_
    refine z_if_lt (tgt := 61) dX1_tellAnother_35 (by decide) (by omega) (fun c35 => ?_) (fun c35 => ?_)
    · refine z_aload_0 dX1_tellAnother_61 ?_
      refine z_iload_1 dX1_tellAnother_62 ?_
      refine z_bipush 64 dX1_tellAnother_63 (by decide +kernel) ?_
      refine z_icmp_ge (tgt := 75) dX1_tellAnother_65 (by decide) (by omega) ⟨by decide, by decide⟩ (fun c65 => ?_) (fun c65 => ?_)
      · refine z_iload_1 dX1_tellAnother_75 ?_
        refine z_bipush 64 dX1_tellAnother_76 (by decide +kernel) ?_
        refine z_isub dX1_tellAnother_78 ?_
        refine z_putI (j := 8) dX1_tellAnother_79 zp_X1_48 (shC_lv ht) rfl (by omega) ?_
        refine z_aload_0 dX1_tellAnother_82 ?_
        refine z_dup dX1_tellAnother_83 rfl ?_
        refine z_getI (j := 9) dX1_tellAnother_84 zf_X1_51 (shC_lv ht) rfl ?_
        refine z_top (b := σ.1 (18 + t) 9) (zsF_ne (by omega)) ?_
        have w9 : zR (σ.1 (18 + t) 9) := hR.1 (18 + t) 9
        refine z_iconst 2 dX1_tellAnother_87 rfl ?_
        refine z_iadd dX1_tellAnother_88 ?_
        refine z_putI (j := 9) dX1_tellAnother_89 zp_X1_51 (shC_lv ht) rfl (by omega) ?_
        refine z_vret dX1_tellAnother_92 rfl ?_
        first | exact h1 (by omega) (by omega) | exact h2 (by omega) (by omega) | exact h3 (by omega) (by omega)
      · refine z_iload_1 dX1_tellAnother_68 ?_
        refine z_bipush 64 dX1_tellAnother_69 (by decide +kernel) ?_
        refine z_iadd dX1_tellAnother_71 ?_
        refine z_goto (tgt := 79) dX1_tellAnother_72 (by decide) ?_
        refine z_putI (j := 8) dX1_tellAnother_79 zp_X1_48 (shC_lv ht) rfl (by omega) ?_
        refine z_aload_0 dX1_tellAnother_82 ?_
        refine z_dup dX1_tellAnother_83 rfl ?_
        refine z_getI (j := 9) dX1_tellAnother_84 zf_X1_51 (shC_lv ht) rfl ?_
        refine z_top (b := σ.1 (18 + t) 9) (zsF_ne (by omega)) ?_
        have w10 : zR (σ.1 (18 + t) 9) := hR.1 (18 + t) 9
        refine z_iconst 2 dX1_tellAnother_87 rfl ?_
        refine z_iadd dX1_tellAnother_88 ?_
        refine z_putI (j := 9) dX1_tellAnother_89 zp_X1_51 (shC_lv ht) rfl (by omega) ?_
        refine z_vret dX1_tellAnother_92 rfl ?_
        first | exact h1 (by omega) (by omega) | exact h2 (by omega) (by omega) | exact h3 (by omega) (by omega)
    · refine z_aload_0 dX1_tellAnother_38 ?_
      refine z_bipush 16 dX1_tellAnother_39 (by decide +kernel) ?_
      refine z_iload_2 dX1_tellAnother_41 ?_
      refine z_imul dX1_tellAnother_42 ?_
      refine z_iload_3 dX1_tellAnother_43 ?_
      refine z_iadd dX1_tellAnother_44 ?_
      refine z_putI (j := 8) dX1_tellAnother_45 zp_X1_48 (shC_lv ht) rfl (by omega) ?_
      refine z_aload_0 dX1_tellAnother_48 ?_
      refine z_dup dX1_tellAnother_49 rfl ?_
      refine z_getI (j := 9) dX1_tellAnother_50 zf_X1_51 (shC_lv ht) rfl ?_
      refine z_top (b := σ.1 (18 + t) 9) (zsF_ne (by omega)) ?_
      have w11 : zR (σ.1 (18 + t) 9) := hR.1 (18 + t) 9
      refine z_iconst 3 dX1_tellAnother_53 rfl ?_
      refine z_iadd dX1_tellAnother_54 ?_
      refine z_putI (j := 9) dX1_tellAnother_55 zp_X1_51 (shC_lv ht) rfl (by omega) ?_
      refine z_goto (tgt := 92) dX1_tellAnother_58 (by decide) ?_
      refine z_vret dX1_tellAnother_92 rfl ?_
      first | exact h1 (by omega) (by omega) | exact h2 (by omega) (by omega) | exact h3 (by omega) (by omega)

section zLk
variable {σ : zSt} {t : Nat} {s b : Int}
theorem zk5 : (zsF (zsF σ (18 + t) 8 s) (18 + t) 9 b).1 (18 + t) 5 = σ.1 (18 + t) 5 := (zsF_ne (by omega)).trans (zsF_ne (by omega))
theorem zk8 : (zsF (zsF σ (18 + t) 8 s) (18 + t) 9 b).1 (18 + t) 8 = s := (zsF_ne (by omega)).trans zsF_eq
theorem zk9 : (zsF (zsF σ (18 + t) 8 s) (18 + t) 9 b).1 (18 + t) 9 = b := zsF_eq
end zLk

theorem N_X1_tellsAnother {G : zG} {σ : zSt} {Post : Option Value → zSt → Prop} (t : Nat) (s b : Int) (ht : t < 6) (hl : σ.1 (18 + t) 5 ≤ 121) (hb0 : 0 ≤ b) (hb1 : b ≤ 200) (h1 : zseeP (σ.2 8) (σ.2 (24 + t)) (σ.1 (18 + t) 5) s b → Post (some (.int (zI 1))) (zsF (zsF σ (18 + t) 8 s) (18 + t) 9 b)) (h0 : ¬ zseeP (σ.2 8) (σ.2 (24 + t)) (σ.1 (18 + t) 5) s b → Post (some (.int (zI 0))) (zsF (zsF σ (18 + t) 8 s) (18 + t) 9 b)) : zV G shC mX1_tellsAnother 0 (zini 3 [.ref (zad G (18 + t)), .ref (zad G 1)]) [] (zsF (zsF σ (18 + t) 8 s) (18 + t) 9 b) Post := by
  refine M_X1_tellsAnother t ht (by rw [zk5]; exact hl) (by rw [zk9]; exact hb0) (by rw [zk9]; exact hb1) (fun q => h1 ?_) (fun q => h0 (fun q' => q ?_))
  · rw [zk5, zk8, zk9] at q; exact q
  · rw [zk5, zk8, zk9]; exact q'
theorem N_X1_tellAnother {G : zG} {σ : zSt} {Post : Option Value → zSt → Prop} (t : Nat) (s b : Int) (ht : t < 6) (hl : σ.1 (18 + t) 5 ≤ 121) (hb0 : 0 ≤ b) (hb1 : b ≤ 200) (hp : zseeP (σ.2 8) (σ.2 (24 + t)) (σ.1 (18 + t) 5) s b) (h1 : 0 ≤ zdig (zst (σ.2 (24 + t)) (σ.1 (18 + t) 5) (b + 1)) → 0 ≤ zdig (zst (σ.2 (24 + t)) (σ.1 (18 + t) 5) (b + 2)) → Post none (zsF (zsF σ (18 + t) 8 (16 * zdig (zst (σ.2 (24 + t)) (σ.1 (18 + t) 5) (b + 1)) + zdig (zst (σ.2 (24 + t)) (σ.1 (18 + t) 5) (b + 2)))) (18 + t) 9 (b + 3))) (h2 : ¬ (0 ≤ zdig (zst (σ.2 (24 + t)) (σ.1 (18 + t) 5) (b + 1)) ∧ 0 ≤ zdig (zst (σ.2 (24 + t)) (σ.1 (18 + t) 5) (b + 2))) → zst (σ.2 (24 + t)) (σ.1 (18 + t) 5) (b + 1) < 64 → Post none (zsF (zsF σ (18 + t) 8 (zst (σ.2 (24 + t)) (σ.1 (18 + t) 5) (b + 1) + 64)) (18 + t) 9 (b + 2))) (h3 : ¬ (0 ≤ zdig (zst (σ.2 (24 + t)) (σ.1 (18 + t) 5) (b + 1)) ∧ 0 ≤ zdig (zst (σ.2 (24 + t)) (σ.1 (18 + t) 5) (b + 2))) → 64 ≤ zst (σ.2 (24 + t)) (σ.1 (18 + t) 5) (b + 1) → Post none (zsF (zsF σ (18 + t) 8 (zst (σ.2 (24 + t)) (σ.1 (18 + t) 5) (b + 1) - 64)) (18 + t) 9 (b + 2))) : zV G shC mX1_tellAnother 0 (zini 4 [.ref (zad G (18 + t))]) [] (zsF (zsF σ (18 + t) 8 s) (18 + t) 9 b) Post := by
  refine M_X1_tellAnother t ht (by rw [zk5]; exact hl) (by rw [zk9]; exact hb0) (by rw [zk9]; exact hb1) (by rw [zk5, zk8, zk9]; exact hp) ?_ ?_ ?_ <;> rw [zk5, zk9, zsF_2 (by decide)]
  · exact h1
  · exact h2
  · exact h3

set_option maxRecDepth 100000 in
theorem L_X1_look {G : zG} {σ : zSt} {Post : Option Value → zSt → Prop} (t : Nat) (z : Int) (ht : t < 6) (hR : zRg σ) (hl : σ.1 (18 + t) 5 ≤ 121) : ∀ (m : Nat) (s b L : Int) (hs : zR s) (hL : L = (m : Int)) (hm : m ≤ 121) (hb0 : 0 ≤ b) (hb1 : b ≤ 125) (h : Post none (zsF (zsF σ (18 + t) 8 ((zsee (σ.2 8) (σ.2 (24 + t)) (σ.1 (18 + t) 5) m s b).1)) (18 + t) 9 ((zsee (σ.2 8) (σ.2 (24 + t)) (σ.1 (18 + t) 5) m s b).2))), zV G shC mX1_look 21 [some (.ref (zad G (18 + t))), some (.int (zI z)), some (.ref (zad G 1)), some (.int (zI L))] [] (zsF (zsF σ (18 + t) 8 s) (18 + t) 9 b) Post := by
  intro m
  induction m with
  | zero =>
    intro s b L hs hL hm hb0 hb1 h
    refine z_iload_3 dX1_look_21 ?_
    refine z_if_le (tgt := 43) dX1_look_22 (by decide) (by omega) (fun c22 => ?_) (fun c22 => by exfalso; omega)
    refine z_vret dX1_look_43 rfl ?_
    exact h
  | succ m ih =>
    intro s b L hs hL hm hb0 hb1 h
    refine z_iload_3 dX1_look_21 ?_
    refine z_if_le (tgt := 43) dX1_look_22 (by decide) (by omega) (fun c22 => by exfalso; omega) (fun c22 => ?_)
    refine z_aload_0 dX1_look_25 ?_
    refine z_aload_2 dX1_look_26 ?_
    refine z_callV mX1_tellsAnother [.ref (zad G 1)] dX1_look_27 zk_X1_tellsAnother zl_X1_54 ⟨Nat.le_of_ble_eq_true rfl, Nat.le_of_ble_eq_true rfl⟩ (shC_lv ht) rfl (Nat.le_of_ble_eq_true rfl) (Nat.le_of_ble_eq_true rfl) ?_
    refine N_X1_tellsAnother t s b ht hl (by omega) (by omega) (fun iP => ?_) (fun iP => ?_)
    · refine z_b1 ?_
      refine z_if_eq (tgt := 43) dX1_look_30 (by decide) ⟨by decide, by decide⟩ (fun c30 => by exfalso; omega) (fun c30 => ?_)
      refine z_aload_0 dX1_look_33 ?_
      refine z_callV mX1_tellAnother [] dX1_look_34 zk_X1_tellAnother zl_X1_58 ⟨Nat.le_of_ble_eq_true rfl, Nat.le_of_ble_eq_true rfl⟩ (shC_lv ht) rfl (Nat.le_of_ble_eq_true rfl) (Nat.le_of_ble_eq_true rfl) ?_
      refine N_X1_tellAnother t s b ht hl (by omega) (by omega) iP (fun i1 i2 => ?_) (fun i1 i2 => ?_) (fun i1 i2 => ?_)
      · refine z_b0 ?_
        refine z_iinc_3 dX1_look_37 (Nat.le_of_ble_eq_true rfl) rfl ?_
        refine z_goto (tgt := 21) dX1_look_40 (by decide) ?_
        have hq := zst_lt iP.2.2.1
        have hd1 := zdig_R (zst (σ.2 (24 + t)) (σ.1 (18 + t) 5) (b + 1))
        have hd2 := zdig_R (zst (σ.2 (24 + t)) (σ.1 (18 + t) 5) (b + 2))
        have hq2 : 0 ≤ zdig (zst (σ.2 (24 + t)) (σ.1 (18 + t) 5) (b + 2)) → b + 2 < σ.1 (18 + t) 5 := fun q => by
          rcases Decidable.em (b + 2 < σ.1 (18 + t) 5) with hh | hh
          · exact hh
          · rw [zst_out (by omega)] at q; exact absurd q (by decide)
        obtain ⟨-, -, hp3, hp4⟩ := id iP
        rw [zsee_1 iP i1 i2] at h
        exact ih _ _ (L + (-1)) (by omega) (by omega) (by omega) (by omega) (by omega) h
      · refine z_b0 ?_
        refine z_iinc_3 dX1_look_37 (Nat.le_of_ble_eq_true rfl) rfl ?_
        refine z_goto (tgt := 21) dX1_look_40 (by decide) ?_
        have hq := zst_lt iP.2.2.1
        have hd1 := zdig_R (zst (σ.2 (24 + t)) (σ.1 (18 + t) 5) (b + 1))
        have hd2 := zdig_R (zst (σ.2 (24 + t)) (σ.1 (18 + t) 5) (b + 2))
        have hq2 : 0 ≤ zdig (zst (σ.2 (24 + t)) (σ.1 (18 + t) 5) (b + 2)) → b + 2 < σ.1 (18 + t) 5 := fun q => by
          rcases Decidable.em (b + 2 < σ.1 (18 + t) 5) with hh | hh
          · exact hh
          · rw [zst_out (by omega)] at q; exact absurd q (by decide)
        obtain ⟨-, -, hp3, hp4⟩ := id iP
        rw [zsee_2 iP i1 i2] at h
        exact ih _ _ (L + (-1)) (by omega) (by omega) (by omega) (by omega) (by omega) h
      · refine z_b0 ?_
        refine z_iinc_3 dX1_look_37 (Nat.le_of_ble_eq_true rfl) rfl ?_
        refine z_goto (tgt := 21) dX1_look_40 (by decide) ?_
        have hq := zst_lt iP.2.2.1
        have hd1 := zdig_R (zst (σ.2 (24 + t)) (σ.1 (18 + t) 5) (b + 1))
        have hd2 := zdig_R (zst (σ.2 (24 + t)) (σ.1 (18 + t) 5) (b + 2))
        have hq2 : 0 ≤ zdig (zst (σ.2 (24 + t)) (σ.1 (18 + t) 5) (b + 2)) → b + 2 < σ.1 (18 + t) 5 := fun q => by
          rcases Decidable.em (b + 2 < σ.1 (18 + t) 5) with hh | hh
          · exact hh
          · rw [zst_out (by omega)] at q; exact absurd q (by decide)
        obtain ⟨-, -, hp3, hp4⟩ := id iP
        rw [zsee_3 iP i1 i2] at h
        exact ih _ _ (L + (-1)) (by omega) (by omega) (by omega) (by omega) (by omega) h
    · refine z_b1 ?_
      refine z_if_eq (tgt := 43) dX1_look_30 (by decide) ⟨by decide, by decide⟩ (fun c30 => ?_) (fun c30 => by exfalso; omega)
      refine z_vret dX1_look_43 rfl ?_
      rw [zsee_0 iP] at h
      exact h

set_option maxRecDepth 100000 in
theorem M_X1_look {G : zG} {σ : zSt} {Post : Option Value → zSt → Prop} (t : Nat) (z : Int) (ht : t < 6) (hl0 : 0 ≤ σ.1 (18 + t) 5) (hl : σ.1 (18 + t) 5 ≤ 121) (hz0 : 0 ≤ z) (hz : z ≤ 121) (h : Post none (zsF (zsF σ (18 + t) 8 ((zsee (σ.2 8) (σ.2 (24 + t)) (σ.1 (18 + t) 5) ((σ.1 (18 + t) 5)).toNat (zst (σ.2 (24 + t)) (σ.1 (18 + t) 5) z) (z + 1)).1)) (18 + t) 9 ((zsee (σ.2 8) (σ.2 (24 + t)) (σ.1 (18 + t) 5) ((σ.1 (18 + t) 5)).toNat (zst (σ.2 (24 + t)) (σ.1 (18 + t) 5) z) (z + 1)).2))) : zV G shC mX1_look 0 (zini 4 [.ref (zad G (18 + t)), .int (zI z), .ref (zad G 1)]) [] σ Post := by
  refine z_rg (fun hR => ?_)
  refine z_lv (lv' := [some (.ref (zad G (18 + t))), some (.int (zI z)), some (.ref (zad G 1)), none]) rfl ?_
  refine z_aload_0 dX1_look_0 ?_
  refine z_aload_0 dX1_look_1 ?_
  refine z_iload_1 dX1_look_2 ?_
  refine z_callV mX1_standing [.int (zI z)] dX1_look_3 zk_X1_standing zl_X1_44 ⟨Nat.le_of_ble_eq_true rfl, Nat.le_of_ble_eq_true rfl⟩ (shC_lv ht) rfl (Nat.le_of_ble_eq_true rfl) (Nat.le_of_ble_eq_true rfl) ?_
  refine M_X1_standing t z ht (by omega) (by omega) ?_
  refine z_b1 ?_
  have w1 := zst_R (σ.2 (24 + t)) (σ.1 (18 + t) 5) z (fun q => hR.2 (24 + t) q)
  refine z_putI (j := 8) dX1_look_6 zp_X1_48 (shC_lv ht) rfl (by omega) ?_
  refine z_aload_0 dX1_look_9 ?_
  refine z_iload_1 dX1_look_10 ?_
  refine z_iconst 1 dX1_look_11 rfl ?_
  refine z_iadd dX1_look_12 ?_
  refine z_putI (j := 9) dX1_look_13 zp_X1_51 (shC_lv ht) rfl (by omega) ?_
  refine z_aload_0 dX1_look_16 ?_
  refine z_getI (j := 5) dX1_look_17 zf_X1_35 (shC_lv ht) rfl ?_
  refine z_top (b := σ.1 (18 + t) 5) ((zsF_ne (by omega)).trans (zsF_ne (by omega))) ?_
  have w2 : zR (σ.1 (18 + t) 5) := hR.1 (18 + t) 5
  refine z_istore_3 dX1_look_20 (Nat.le_of_ble_eq_true rfl) rfl ?_
  exact L_X1_look t z ht hR hl (σ.1 (18 + t) 5).toNat (zst (σ.2 (24 + t)) (σ.1 (18 + t) 5) z) (z + 1) (σ.1 (18 + t) 5) (by omega) (by omega) (by omega) (by omega) (by omega) h
end
section
def zsS (σ : zSt) (c : Nat) (s n x : Int) : zSt := (σ.1, fun a z => if a = c ∧ s ≤ z ∧ (z - s) % 256 = 0 ∧ z < s + 256 * n then x else σ.2 a z)
theorem zsS_0 {σ : zSt} {c : Nat} {s x : Int} : zsS σ c s 0 x = σ := Prod.ext rfl (funext fun a => funext fun z => if_neg (by omega))
theorem zsS_F {σ : zSt} {c a b : Nat} {s n x : Int} : (zsS σ c s n x).1 a b = σ.1 a b := rfl
theorem zsS_arr {σ : zSt} {c a : Nat} {s n x : Int} (h : a ≠ c) : (zsS σ c s n x).2 a = σ.2 a := by funext z; exact if_neg (fun q => h q.1)
theorem zsS_ne1 {σ : zSt} {c a : Nat} {s n x z : Int} (h : ¬ (a = c ∧ s ≤ z ∧ (z - s) % 256 = 0 ∧ z < s + 256 * n)) : (zsS σ c s n x).2 a z = σ.2 a z := if_neg h
theorem zsS_S {σ : zSt} {c : Nat} {s n x z : Int} (h0 : 0 ≤ n) (hz : z = s + 256 * n) : zsA (zsS σ c s n x) c z x = zsS σ c s (n + 1) x := by
  subst hz
  refine Prod.ext rfl (funext fun a => funext fun z => ?_)
  show (if a = c ∧ z = s + 256 * n then x else if a = c ∧ s ≤ z ∧ (z - s) % 256 = 0 ∧ z < s + 256 * n then x else σ.2 a z) = if a = c ∧ s ≤ z ∧ (z - s) % 256 = 0 ∧ z < s + 256 * (n + 1) then x else σ.2 a z
  by_cases h1 : a = c ∧ z = s + 256 * n
  · rw [if_pos h1, if_pos ⟨h1.1, by omega, by omega, by omega⟩]
  · rw [if_neg h1]
    by_cases h2 : a = c ∧ s ≤ z ∧ (z - s) % 256 = 0 ∧ z < s + 256 * n
    · rw [if_pos h2, if_pos ⟨h2.1, h2.2.1, h2.2.2.1, by omega⟩]
    · rw [if_neg h2, if_neg (fun q => h2 ⟨q.1, q.2.1, q.2.2.1, by have := q.2.2.2; have h4 : ¬ z = s + 256 * n := fun e => h1 ⟨q.1, e⟩; have := q.2.2.1; omega⟩)]

set_option maxRecDepth 100000 in
theorem L_X0_setE {G : zG} {σ : zSt} {Post : Option Value → zSt → Prop} (s c g : Int) (hR : zRg σ) (hs0 : 0 ≤ s) (hs1 : s < 256) (hc : zR c) (hg : g = σ.1 1 2) (hg0 : 0 ≤ g) (hg1 : g ≤ 20) (h : Post none (zsS σ 9 s g c)) : ∀ (m : Nat) (i j : Int) (hi : i = s + 256 * j) (hj0 : 0 ≤ j) (hm : j + m = g), zV G shC mX0_setEverywhere 20 [some (.ref (zad G 1)), some (.int (zI s)), some (.int (zI c)), some (.int (zI i))] [] (zsS σ 9 s j c) Post := by
  intro m
  induction m with
  | zero =>
    intro i j hi hj0 hm
    refine z_iload_3 dX0_setEverywhere_20 ?_
    refine z_aload_0 dX0_setEverywhere_21 ?_
    refine z_getI (j := 2) dX0_setEverywhere_22 zf_X0_26 rfl rfl ?_
    refine z_top (b := σ.1 1 2) zsS_F ?_
    have w1 : zR (σ.1 1 2) := hR.1 1 2
    refine z_sipush 256 dX0_setEverywhere_25 (by decide +kernel) ?_
    refine z_imul dX0_setEverywhere_28 ?_
    refine z_icmp_ge (tgt := 57) dX0_setEverywhere_29 (by decide) (by omega) (by omega) (fun c29 => ?_) (fun c29 => by exfalso; omega)
    refine z_vret dX0_setEverywhere_57 rfl ?_
    have e : j = g := by omega
    subst e
    exact h
  | succ m ih =>
    intro i j hi hj0 hm
    refine z_iload_3 dX0_setEverywhere_20 ?_
    refine z_aload_0 dX0_setEverywhere_21 ?_
    refine z_getI (j := 2) dX0_setEverywhere_22 zf_X0_26 rfl rfl ?_
    refine z_top (b := σ.1 1 2) zsS_F ?_
    have w1 : zR (σ.1 1 2) := hR.1 1 2
    refine z_sipush 256 dX0_setEverywhere_25 (by decide +kernel) ?_
    refine z_imul dX0_setEverywhere_28 ?_
    refine z_icmp_ge (tgt := 57) dX0_setEverywhere_29 (by decide) (by omega) (by omega) (fun c29 => by exfalso; omega) (fun c29 => ?_)
    refine z_iload_3 dX0_setEverywhere_32 ?_
    refine z_aload_0 dX0_setEverywhere_33 ?_
    refine z_getR (j := 1) dX0_setEverywhere_34 zf_X0_15 rfl rfl ?_
    refine z_alenI dX0_setEverywhere_37 rfl ?_
    refine z_top (b := 5120) rfl ?_
    refine z_icmp_ge (tgt := 57) dX0_setEverywhere_38 (by decide) (by omega) ⟨by decide, by decide⟩ (fun c38 => by exfalso; omega) (fun c38 => ?_)
    refine z_aload_0 dX0_setEverywhere_41 ?_
    refine z_getR (j := 1) dX0_setEverywhere_42 zf_X0_15 rfl rfl ?_
    refine z_iload_3 dX0_setEverywhere_45 ?_
    refine z_iload_2 dX0_setEverywhere_46 ?_
    refine z_iast dX0_setEverywhere_47 rfl (by decide) (by omega) (by omega) (by omega) ?_
    refine z_iincw_3 dX0_setEverywhere_48 (Nat.le_of_ble_eq_true rfl) rfl ?_
    refine z_goto (tgt := 20) dX0_setEverywhere_54 (by decide) ?_
    exact z_st (zsS_S hj0 hi) (ih (i + 256) (j + 1) (by omega) (by omega) (by omega))

set_option maxRecDepth 100000 in
theorem M_X0_setEverywhere {G : zG} {σ : zSt} {Post : Option Value → zSt → Prop} (s c : Int) (hs0 : 0 ≤ s) (hs1 : s < 256) (hc : zR c) (hg0 : 0 ≤ σ.1 1 2) (hg1 : σ.1 1 2 ≤ 20) (h : Post none (zsS (zsA σ 8 s c) 9 s (σ.1 1 2) c)) : zV G shC mX0_setEverywhere 0 (zini 4 [.ref (zad G 1), .int (zI s), .int (zI c)]) [] σ Post := by
  refine z_rg (fun hR => ?_)
  refine z_lv (lv' := [some (.ref (zad G 1)), some (.int (zI s)), some (.int (zI c)), none]) rfl ?_
  refine z_aload_0 dX0_setEverywhere_0 ?_
  refine z_iload_1 dX0_setEverywhere_1 ?_
  refine z_iload_2 dX0_setEverywhere_2 ?_
  refine z_callV mX0_setHere [.int (zI s), .int (zI c)] dX0_setEverywhere_3 zk_X0_setHere zl_X0_22 ⟨Nat.le_of_ble_eq_true rfl, Nat.le_of_ble_eq_true rfl⟩ rfl rfl (Nat.le_of_ble_eq_true rfl) (Nat.le_of_ble_eq_true rfl) ?_
  refine M_X0_setHere s c (by omega) (by omega) (by omega) ?_
  refine z_b0 ?_
  refine z_iload_1 dX0_setEverywhere_6 ?_
  refine z_if_lt (tgt := 17) dX0_setEverywhere_7 (by decide) (by omega) (fun c7 => by exfalso; omega) (fun c7 => ?_)
  refine z_iload_1 dX0_setEverywhere_10 ?_
  refine z_sipush 256 dX0_setEverywhere_11 (by decide +kernel) ?_
  refine z_icmp_lt (tgt := 18) dX0_setEverywhere_14 (by decide) (by omega) ⟨by decide, by decide⟩ (fun c14 => ?_) (fun c14 => by exfalso; omega)
  refine z_iload_1 dX0_setEverywhere_18 ?_
  refine z_istore_3 dX0_setEverywhere_19 (Nat.le_of_ble_eq_true rfl) rfl ?_
  exact z_st zsS_0.symm (L_X0_setE s c (σ.1 1 2) (hR.A hc) hs0 hs1 hc rfl hg0 hg1 h (σ.1 1 2).toNat s 0 (by omega) (by omega) (by omega))

set_option maxRecDepth 100000 in
theorem M_X0_beginGroup {G : zG} {σ : zSt} {Post : Option Value → zSt → Prop} (hg0 : 0 ≤ σ.1 1 2) (hg1 : σ.1 1 2 ≤ 20) (h1 : σ.1 1 2 < 20 → Post (some (.int (zI 1))) (zsF (zsC σ 8 0 9 (σ.1 1 2 * 256) 256) 1 2 (σ.1 1 2 + 1))) (h0 : σ.1 1 2 = 20 → Post (some (.int (zI 0))) σ) : zV G shC mX0_beginGroup 0 (zini 1 [.ref (zad G 1)]) [] σ Post := by
  refine z_rg (fun hR => ?_)
  refine z_lv (lv' := [some (.ref (zad G 1))]) rfl ?_
  refine z_aload_0 dX0_beginGroup_0 ?_
  refine z_getI (j := 2) dX0_beginGroup_1 zf_X0_26 rfl rfl ?_
  have w1 : zR (σ.1 1 2) := hR.1 1 2
  refine z_if_lt (tgt := 16) dX0_beginGroup_4 (by decide) (by omega) (fun c4 => by exfalso; omega) (fun c4 => ?_)
  refine z_aload_0 dX0_beginGroup_7 ?_
  refine z_getI (j := 2) dX0_beginGroup_8 zf_X0_26 rfl rfl ?_
  have w2 : zR (σ.1 1 2) := hR.1 1 2
  refine z_bipush 20 dX0_beginGroup_11 (by decide +kernel) ?_
  refine z_icmp_lt (tgt := 18) dX0_beginGroup_13 (by decide) (by omega) ⟨by decide, by decide⟩ (fun c13 => ?_) (fun c13 => ?_)
  · refine z_aload_0 dX0_beginGroup_18 ?_
    refine z_getR (j := 0) dX0_beginGroup_19 zf_X0_9 rfl rfl ?_
    refine z_iconst 0 dX0_beginGroup_22 rfl ?_
    refine z_aload_0 dX0_beginGroup_23 ?_
    refine z_getR (j := 1) dX0_beginGroup_24 zf_X0_15 rfl rfl ?_
    refine z_aload_0 dX0_beginGroup_27 ?_
    refine z_getI (j := 2) dX0_beginGroup_28 zf_X0_26 rfl rfl ?_
    have w3 : zR (σ.1 1 2) := hR.1 1 2
    refine z_sipush 256 dX0_beginGroup_31 (by decide +kernel) ?_
    refine z_imul dX0_beginGroup_34 ?_
    refine z_sipush 256 dX0_beginGroup_35 (by decide +kernel) ?_
    refine z_copy dX0_beginGroup_38 zl_X0_30 zn_native zn_static zn_initialized rfl rfl (by decide) (by decide) (by omega) (by omega) (by omega) (by omega) (by omega) ⟨Nat.le_of_ble_eq_true rfl, by decide +kernel⟩ (Nat.le_of_ble_eq_true rfl) ?_
    refine z_aload_0 dX0_beginGroup_41 ?_
    refine z_dup dX0_beginGroup_42 rfl ?_
    refine z_getI (j := 2) dX0_beginGroup_43 zf_X0_26 rfl rfl ?_
    refine z_top (b := σ.1 1 2) zsC_F ?_
    have w4 : zR (σ.1 1 2) := hR.1 1 2
    refine z_iconst 1 dX0_beginGroup_46 rfl ?_
    refine z_iadd dX0_beginGroup_47 ?_
    refine z_putI (j := 2) dX0_beginGroup_48 zp_X0_26 rfl rfl (by omega) ?_
    refine z_iconst 1 dX0_beginGroup_51 rfl ?_
    refine z_zret dX0_beginGroup_52 rfl (Or.inr rfl) ?_
    exact h1 (by omega)
  · refine z_iconst 0 dX0_beginGroup_16 rfl ?_
    refine z_zret dX0_beginGroup_17 rfl (Or.inl rfl) ?_
    exact h0 (by omega)

set_option maxRecDepth 100000 in
theorem M_X0_endGroup {G : zG} {σ : zSt} {Post : Option Value → zSt → Prop} (hg0 : 0 ≤ σ.1 1 2) (hg1 : σ.1 1 2 ≤ 20) (h1 : 0 < σ.1 1 2 → Post (some (.int (zI 1))) (zsC (zsF σ 1 2 (σ.1 1 2 - 1)) 9 ((σ.1 1 2 - 1) * 256) 8 0 256)) (h0 : σ.1 1 2 = 0 → Post (some (.int (zI 0))) σ) : zV G shC mX0_endGroup 0 (zini 1 [.ref (zad G 1)]) [] σ Post := by
  refine z_rg (fun hR => ?_)
  refine z_lv (lv' := [some (.ref (zad G 1))]) rfl ?_
  refine z_aload_0 dX0_endGroup_0 ?_
  refine z_getI (j := 2) dX0_endGroup_1 zf_X0_26 rfl rfl ?_
  have w1 : zR (σ.1 1 2) := hR.1 1 2
  refine z_if_le (tgt := 16) dX0_endGroup_4 (by decide) (by omega) (fun c4 => ?_) (fun c4 => ?_)
  · refine z_iconst 0 dX0_endGroup_16 rfl ?_
    refine z_zret dX0_endGroup_17 rfl (Or.inl rfl) ?_
    exact h0 (by omega)
  · refine z_aload_0 dX0_endGroup_7 ?_
    refine z_getI (j := 2) dX0_endGroup_8 zf_X0_26 rfl rfl ?_
    have w2 : zR (σ.1 1 2) := hR.1 1 2
    refine z_bipush 20 dX0_endGroup_11 (by decide +kernel) ?_
    refine z_icmp_le (tgt := 18) dX0_endGroup_13 (by decide) (by omega) ⟨by decide, by decide⟩ (fun c13 => ?_) (fun c13 => by exfalso; omega)
    refine z_aload_0 dX0_endGroup_18 ?_
    refine z_dup dX0_endGroup_19 rfl ?_
    refine z_getI (j := 2) dX0_endGroup_20 zf_X0_26 rfl rfl ?_
    have w3 : zR (σ.1 1 2) := hR.1 1 2
    refine z_iconst 1 dX0_endGroup_23 rfl ?_
    refine z_isub dX0_endGroup_24 ?_
    refine z_putI (j := 2) dX0_endGroup_25 zp_X0_26 rfl rfl (by omega) ?_
    refine z_aload_0 dX0_endGroup_28 ?_
    refine z_getR (j := 1) dX0_endGroup_29 zf_X0_15 rfl rfl ?_
    refine z_aload_0 dX0_endGroup_32 ?_
    refine z_getI (j := 2) dX0_endGroup_33 zf_X0_26 rfl rfl ?_
    refine z_top (b := ((σ.1 1 2) - 1)) zsF_eq ?_
    refine z_sipush 256 dX0_endGroup_36 (by decide +kernel) ?_
    refine z_imul dX0_endGroup_39 ?_
    refine z_aload_0 dX0_endGroup_40 ?_
    refine z_getR (j := 0) dX0_endGroup_41 zf_X0_9 rfl rfl ?_
    refine z_iconst 0 dX0_endGroup_44 rfl ?_
    refine z_sipush 256 dX0_endGroup_45 (by decide +kernel) ?_
    refine z_copy dX0_endGroup_48 zl_X0_30 zn_native zn_static zn_initialized rfl rfl (by decide) (by decide) (by omega) (by omega) (by omega) (by omega) (by omega) ⟨Nat.le_of_ble_eq_true rfl, by decide +kernel⟩ (Nat.le_of_ble_eq_true rfl) ?_
    refine z_iconst 1 dX0_endGroup_51 rfl ?_
    refine z_zret dX0_endGroup_52 rfl (Or.inr rfl) ?_
    exact h1 (by omega)

def zns (sg ln : Int → Int) (sz a k : Int) : Int := if 0 ≤ a ∧ a < sz ∧ 0 ≤ k ∧ k < ln a then sg (a * 40 + k) else -1
theorem zns_R (sg ln : Int → Int) (sz a k : Int) (h : ∀ q, zR (sg q)) : zR (zns sg ln sz a k) := by unfold zns; split; exact h _; omega
def zdl (d : Int) : Int := if 40 < d then 40 else d
theorem zdl_R {d : Int} (h : 0 ≤ d) : 0 ≤ zdl d ∧ zdl d ≤ 40 ∧ zdl d ≤ d := by unfold zdl; split <;> omega

set_option maxRecDepth 100000 in
theorem M_X3_has {G : zG} {σ : zSt} {Post : Option Value → zSt → Prop} (a : Int) (ha : zR a) (hsz : σ.1 5 3 ≤ 150) (h1 : 0 ≤ a → a < σ.1 5 3 → Post (some (.int (zI 1))) σ) (h0 : a < 0 ∨ σ.1 5 3 ≤ a → Post (some (.int (zI 0))) σ) : zV G shC mX3_has 0 (zini 2 [.ref (zad G 5), .int (zI a)]) [] σ Post := by
  refine z_rg (fun hR => ?_)
  refine z_lv (lv' := [some (.ref (zad G 5)), some (.int (zI a))]) rfl ?_
  refine z_iload_1 dX3_has_0 ?_
  refine z_if_lt (tgt := 25) dX3_has_1 (by decide) (by omega) (fun c1 => ?_) (fun c1 => ?_)
  · refine z_iconst 0 dX3_has_25 rfl ?_
    refine z_zret dX3_has_26 rfl (Or.inl rfl) ?_
    first | exact h1 (by omega) (by omega) | exact h0 (by omega) | (exfalso; omega)
  · refine z_iload_1 dX3_has_4 ?_
    refine z_aload_0 dX3_has_5 ?_
    refine z_getI (j := 3) dX3_has_6 zf_X3_21 rfl rfl ?_
    have w1 : zR (σ.1 5 3) := hR.1 5 3
    refine z_icmp_ge (tgt := 25) dX3_has_9 (by decide) (by omega) (by omega) (fun c9 => ?_) (fun c9 => ?_)
    · refine z_iconst 0 dX3_has_25 rfl ?_
      refine z_zret dX3_has_26 rfl (Or.inl rfl) ?_
      first | exact h1 (by omega) (by omega) | exact h0 (by omega) | (exfalso; omega)
    · refine z_iload_1 dX3_has_12 ?_
      refine z_aload_0 dX3_has_13 ?_
      refine z_getR (j := 1) dX3_has_14 zf_X3_15 rfl rfl ?_
      refine z_alenI dX3_has_17 rfl ?_
      refine z_top (b := 150) rfl ?_
      refine z_icmp_ge (tgt := 25) dX3_has_18 (by decide) (by omega) ⟨by decide, by decide⟩ (fun c18 => ?_) (fun c18 => ?_)
      · refine z_iconst 0 dX3_has_25 rfl ?_
        refine z_zret dX3_has_26 rfl (Or.inl rfl) ?_
        first | exact h1 (by omega) (by omega) | exact h0 (by omega) | (exfalso; omega)
      · refine z_iconst 1 dX3_has_21 rfl ?_
        refine z_goto (tgt := 26) dX3_has_22 (by decide) ?_
        refine z_zret dX3_has_26 rfl (Or.inr rfl) ?_
        first | exact h1 (by omega) (by omega) | exact h0 (by omega) | (exfalso; omega)

set_option maxRecDepth 100000 in
theorem M_X3_sign {G : zG} {σ : zSt} {Post : Option Value → zSt → Prop} (a k : Int) (ha : zR a) (hk : zR k) (hsz : σ.1 5 3 ≤ 150) (hln : ∀ q, 0 ≤ σ.2 14 q ∧ σ.2 14 q ≤ 40) (h : Post (some (.int (zI (zns (σ.2 13) (σ.2 14) (σ.1 5 3) a k)))) σ) : zV G shC mX3_sign 0 (zini 4 [.ref (zad G 5), .int (zI a), .int (zI k)]) [] σ Post := by
  refine z_rg (fun hR => ?_)
  refine z_lv (lv' := [some (.ref (zad G 5)), some (.int (zI a)), some (.int (zI k)), none]) rfl ?_
  have hln1 := hln a
  refine z_aload_0 dX3_sign_0 ?_
  refine z_iload_1 dX3_sign_1 ?_
  refine z_callV mX3_has [.int (zI a)] dX3_sign_2 zk_X3_has zl_X3_25 ⟨Nat.le_of_ble_eq_true rfl, Nat.le_of_ble_eq_true rfl⟩ rfl rfl (Nat.le_of_ble_eq_true rfl) (Nat.le_of_ble_eq_true rfl) ?_
  refine M_X3_has a (by omega) (by omega) (fun i1 i2 => ?_) (fun i1 => ?_)
  · refine z_b1 ?_
    refine z_if_eq (tgt := 22) dX3_sign_5 (by decide) ⟨by decide, by decide⟩ (fun c5 => by exfalso; omega) (fun c5 => ?_)
    refine z_iload_2 dX3_sign_8 ?_
    refine z_if_lt (tgt := 22) dX3_sign_9 (by decide) (by omega) (fun c9 => ?_) (fun c9 => ?_)
    · refine z_iconst (-1) dX3_sign_22 rfl ?_
      refine z_iret dX3_sign_23 rfl ?_
      exact zPe h (if_neg (by omega)).symm
    · refine z_iload_2 dX3_sign_12 ?_
      refine z_aload_0 dX3_sign_13 ?_
      refine z_getR (j := 1) dX3_sign_14 zf_X3_15 rfl rfl ?_
      refine z_iload_1 dX3_sign_17 ?_
      refine z_iald dX3_sign_18 rfl (by decide) (by omega) (by omega) ?_
      have w1 : zR (σ.2 14 a) := hR.2 14 a
      refine z_icmp_lt (tgt := 24) dX3_sign_19 (by decide) (by omega) (by omega) (fun c19 => ?_) (fun c19 => ?_)
      · refine z_iload_1 dX3_sign_24 ?_
        refine z_bipush 40 dX3_sign_25 (by decide +kernel) ?_
        refine z_imul dX3_sign_27 ?_
        refine z_iload_2 dX3_sign_28 ?_
        refine z_iadd dX3_sign_29 ?_
        refine z_istore_3 dX3_sign_30 (Nat.le_of_ble_eq_true rfl) rfl ?_
        refine z_iload_3 dX3_sign_31 ?_
        refine z_aload_0 dX3_sign_32 ?_
        refine z_getR (j := 0) dX3_sign_33 zf_X3_9 rfl rfl ?_
        refine z_alenI dX3_sign_36 rfl ?_
        refine z_top (b := 6000) rfl ?_
        refine z_icmp_ge (tgt := 49) dX3_sign_37 (by decide) (by omega) ⟨by decide, by decide⟩ (fun c37 => by exfalso; omega) (fun c37 => ?_)
        refine z_aload_0 dX3_sign_40 ?_
        refine z_getR (j := 0) dX3_sign_41 zf_X3_9 rfl rfl ?_
        refine z_iload_3 dX3_sign_44 ?_
        refine z_iald dX3_sign_45 rfl (by decide) (by omega) (by omega) ?_
        have w2 : zR (σ.2 13 ((a * 40) + k)) := hR.2 13 ((a * 40) + k)
        refine z_goto (tgt := 50) dX3_sign_46 (by decide) ?_
        refine z_iret dX3_sign_50 rfl ?_
        exact zPe h (if_pos (by omega)).symm
      · refine z_iconst (-1) dX3_sign_22 rfl ?_
        refine z_iret dX3_sign_23 rfl ?_
        exact zPe h (if_neg (by omega)).symm
  · refine z_b1 ?_
    refine z_if_eq (tgt := 22) dX3_sign_5 (by decide) ⟨by decide, by decide⟩ (fun c5 => ?_) (fun c5 => by exfalso; omega)
    refine z_iconst (-1) dX3_sign_22 rfl ?_
    refine z_iret dX3_sign_23 rfl ?_
    exact zPe h (if_neg (by omega)).symm

set_option maxRecDepth 100000 in
theorem M_X3_beginDraft {G : zG} {σ : zSt} {Post : Option Value → zSt → Prop} (h : Post none (zsF σ 5 4 0)) : zV G shC mX3_beginDraft 0 (zini 1 [.ref (zad G 5)]) [] σ Post := by
  refine z_rg (fun hR => ?_)
  refine z_lv (lv' := [some (.ref (zad G 5))]) rfl ?_
  refine z_aload_0 dX3_beginDraft_0 ?_
  refine z_iconst 0 dX3_beginDraft_1 rfl ?_
  refine z_putI (j := 4) dX3_beginDraft_2 zp_X3_29 rfl rfl ⟨by decide, by decide⟩ ?_
  refine z_vret dX3_beginDraft_5 rfl ?_
  exact h

set_option maxRecDepth 100000 in
theorem M_X3_growDraft {G : zG} {σ : zSt} {Post : Option Value → zSt → Prop} (c : Int) (hc : zR c) (hd0 : 0 ≤ σ.1 5 4) (hd1 : σ.1 5 4 ≤ 1000) (h1 : σ.1 5 4 < 40 → Post none (zsF (zsA σ 15 (σ.1 5 4) c) 5 4 (σ.1 5 4 + 1))) (h0 : 40 ≤ σ.1 5 4 → Post none (zsF σ 5 4 (σ.1 5 4 + 1))) : zV G shC mX3_growDraft 0 (zini 2 [.ref (zad G 5), .int (zI c)]) [] σ Post := by
  refine z_rg (fun hR => ?_)
  refine z_lv (lv' := [some (.ref (zad G 5)), some (.int (zI c))]) rfl ?_
  refine z_aload_0 dX3_growDraft_0 ?_
  refine z_getI (j := 4) dX3_growDraft_1 zf_X3_29 rfl rfl ?_
  have w1 : zR (σ.1 5 4) := hR.1 5 4
  refine z_if_lt (tgt := 29) dX3_growDraft_4 (by decide) (by omega) (fun c4 => by exfalso; omega) (fun c4 => ?_)
  refine z_aload_0 dX3_growDraft_7 ?_
  refine z_getI (j := 4) dX3_growDraft_8 zf_X3_29 rfl rfl ?_
  have w2 : zR (σ.1 5 4) := hR.1 5 4
  refine z_aload_0 dX3_growDraft_11 ?_
  refine z_getR (j := 2) dX3_growDraft_12 zf_X3_18 rfl rfl ?_
  refine z_alenI dX3_growDraft_15 rfl ?_
  refine z_top (b := 40) rfl ?_
  refine z_icmp_ge (tgt := 29) dX3_growDraft_16 (by decide) (by omega) ⟨by decide, by decide⟩ (fun c16 => ?_) (fun c16 => ?_)
  · refine z_aload_0 dX3_growDraft_29 ?_
    refine z_dup dX3_growDraft_30 rfl ?_
    refine z_getI (j := 4) dX3_growDraft_31 zf_X3_29 rfl rfl ?_
    have w3 : zR (σ.1 5 4) := hR.1 5 4
    refine z_iconst 1 dX3_growDraft_34 rfl ?_
    refine z_iadd dX3_growDraft_35 ?_
    refine z_putI (j := 4) dX3_growDraft_36 zp_X3_29 rfl rfl (by omega) ?_
    refine z_vret dX3_growDraft_39 rfl ?_
    first | exact h1 (by omega) | exact h0 (by omega)
  · refine z_aload_0 dX3_growDraft_19 ?_
    refine z_getR (j := 2) dX3_growDraft_20 zf_X3_18 rfl rfl ?_
    refine z_aload_0 dX3_growDraft_23 ?_
    refine z_getI (j := 4) dX3_growDraft_24 zf_X3_29 rfl rfl ?_
    have w4 : zR (σ.1 5 4) := hR.1 5 4
    refine z_iload_1 dX3_growDraft_27 ?_
    refine z_iast dX3_growDraft_28 rfl (by decide) (by omega) (by omega) (by omega) ?_
    refine z_aload_0 dX3_growDraft_29 ?_
    refine z_dup dX3_growDraft_30 rfl ?_
    refine z_getI (j := 4) dX3_growDraft_31 zf_X3_29 rfl rfl ?_
    refine z_top (b := σ.1 5 4) zsA_F ?_
    have w5 : zR (σ.1 5 4) := hR.1 5 4
    refine z_iconst 1 dX3_growDraft_34 rfl ?_
    refine z_iadd dX3_growDraft_35 ?_
    refine z_putI (j := 4) dX3_growDraft_36 zp_X3_29 rfl rfl (by omega) ?_
    refine z_vret dX3_growDraft_39 rfl ?_
    first | exact h1 (by omega) | exact h0 (by omega)

set_option maxRecDepth 100000 in
theorem M_X3_draftIsLong {G : zG} {σ : zSt} {Post : Option Value → zSt → Prop} (h1 : 40 < σ.1 5 4 → Post (some (.int (zI 1))) σ) (h0 : σ.1 5 4 ≤ 40 → Post (some (.int (zI 0))) σ) : zV G shC mX3_draftIsLong 0 (zini 1 [.ref (zad G 5)]) [] σ Post := by
  refine z_rg (fun hR => ?_)
  refine z_lv (lv' := [some (.ref (zad G 5))]) rfl ?_
  refine z_aload_0 dX3_draftIsLong_0 ?_
  refine z_getI (j := 4) dX3_draftIsLong_1 zf_X3_29 rfl rfl ?_
  have w1 : zR (σ.1 5 4) := hR.1 5 4
  refine z_bipush 40 dX3_draftIsLong_4 (by decide +kernel) ?_
  refine z_icmp_le (tgt := 13) dX3_draftIsLong_6 (by decide) (by omega) ⟨by decide, by decide⟩ (fun c6 => ?_) (fun c6 => ?_)
  · refine z_iconst 0 dX3_draftIsLong_13 rfl ?_
    refine z_zret dX3_draftIsLong_14 rfl (Or.inl rfl) ?_
    first | exact h1 (by omega) | exact h0 (by omega)
  · refine z_iconst 1 dX3_draftIsLong_9 rfl ?_
    refine z_goto (tgt := 14) dX3_draftIsLong_10 (by decide) ?_
    refine z_zret dX3_draftIsLong_14 rfl (Or.inr rfl) ?_
    first | exact h1 (by omega) | exact h0 (by omega)

set_option maxRecDepth 100000 in
theorem M_X3_draftLength {G : zG} {σ : zSt} {Post : Option Value → zSt → Prop} (h : Post (some (.int (zI (zdl (σ.1 5 4))))) σ) : zV G shC mX3_draftLength 0 (zini 1 [.ref (zad G 5)]) [] σ Post := by
  refine z_rg (fun hR => ?_)
  refine z_lv (lv' := [some (.ref (zad G 5))]) rfl ?_
  refine z_aload_0 dX3_draftLength_0 ?_
  refine z_callV mX3_draftIsLong [] dX3_draftLength_1 zk_X3_draftIsLong zl_X3_45 ⟨Nat.le_of_ble_eq_true rfl, Nat.le_of_ble_eq_true rfl⟩ rfl rfl (Nat.le_of_ble_eq_true rfl) (Nat.le_of_ble_eq_true rfl) ?_
  refine M_X3_draftIsLong (fun i1 => ?_) (fun i1 => ?_)
  · refine z_b1 ?_
    refine z_if_eq (tgt := 12) dX3_draftLength_4 (by decide) ⟨by decide, by decide⟩ (fun c4 => by exfalso; omega) (fun c4 => ?_)
    refine z_bipush 40 dX3_draftLength_7 (by decide +kernel) ?_
    refine z_goto (tgt := 16) dX3_draftLength_9 (by decide) ?_
    refine z_iret dX3_draftLength_16 rfl ?_
    exact zPe h (if_pos (by omega)).symm
  · refine z_b1 ?_
    refine z_if_eq (tgt := 12) dX3_draftLength_4 (by decide) ⟨by decide, by decide⟩ (fun c4 => ?_) (fun c4 => by exfalso; omega)
    refine z_aload_0 dX3_draftLength_12 ?_
    refine z_getI (j := 4) dX3_draftLength_13 zf_X3_29 rfl rfl ?_
    have w1 : zR (σ.1 5 4) := hR.1 5 4
    refine z_iret dX3_draftLength_16 rfl ?_
    exact zPe h (if_neg (by omega)).symm

def zisD (σ : zSt) (a : Int) : Prop := σ.2 14 a = zdl (σ.1 5 4) ∧ ∀ k, 0 ≤ k → k < σ.2 14 a → zns (σ.2 13) (σ.2 14) (σ.1 5 3) a k = σ.2 15 k

set_option maxRecDepth 100000 in
theorem L_X3_isDraft {G : zG} {σ : zSt} {Post : Option Value → zSt → Prop} (a : Int) (hR : zRg σ) (ha0 : 0 ≤ a) (ha : a < σ.1 5 3) (hsz0 : 0 ≤ σ.1 5 3) (hsz : σ.1 5 3 ≤ 150) (hln : ∀ q, 0 ≤ σ.2 14 q ∧ σ.2 14 q ≤ 40) (he : σ.2 14 a = zdl (σ.1 5 4)) (h1 : zisD σ a → Post (some (.int (zI 1))) σ) (h0 : ¬ zisD σ a → Post (some (.int (zI 0))) σ) : ∀ (m : Nat) (i : Int) (hi0 : 0 ≤ i) (hm : i + m = σ.2 14 a) (hk : ∀ k, 0 ≤ k → k < i → zns (σ.2 13) (σ.2 14) (σ.1 5 3) a k = σ.2 15 k), zV G shC mX3_isDraft 25 [some (.ref (zad G 5)), some (.int (zI a)), some (.int (zI i))] [] σ Post := by
  intro m
  induction m with
  | zero =>
    intro i hi0 hm hk
    have hln1 := hln a
    refine z_iload_2 dX3_isDraft_25 ?_
    refine z_aload_0 dX3_isDraft_26 ?_
    refine z_getR (j := 1) dX3_isDraft_27 zf_X3_15 rfl rfl ?_
    refine z_iload_1 dX3_isDraft_30 ?_
    refine z_iald dX3_isDraft_31 rfl (by decide) (by omega) (by omega) ?_
    have w1 : zR (σ.2 14 a) := hR.2 14 a
    refine z_icmp_ge (tgt := 67) dX3_isDraft_32 (by decide) (by omega) (by omega) (fun c32 => ?_) (fun c32 => by exfalso; omega)
    refine z_iconst 1 dX3_isDraft_67 rfl ?_
    refine z_zret dX3_isDraft_68 rfl (Or.inr rfl) ?_
    exact h1 ⟨he, fun k q0 q1 => hk k q0 (by omega)⟩
  | succ m ih =>
    intro i hi0 hm hk
    have hln1 := hln a
    refine z_iload_2 dX3_isDraft_25 ?_
    refine z_aload_0 dX3_isDraft_26 ?_
    refine z_getR (j := 1) dX3_isDraft_27 zf_X3_15 rfl rfl ?_
    refine z_iload_1 dX3_isDraft_30 ?_
    refine z_iald dX3_isDraft_31 rfl (by decide) (by omega) (by omega) ?_
    have w1 : zR (σ.2 14 a) := hR.2 14 a
    refine z_icmp_ge (tgt := 67) dX3_isDraft_32 (by decide) (by omega) (by omega) (fun c32 => by exfalso; omega) (fun c32 => ?_)
    refine z_iload_2 dX3_isDraft_35 ?_
    refine z_aload_0 dX3_isDraft_36 ?_
    refine z_getR (j := 2) dX3_isDraft_37 zf_X3_18 rfl rfl ?_
    refine z_alenI dX3_isDraft_40 rfl ?_
    refine z_top (b := 40) rfl ?_
    refine z_icmp_ge (tgt := 67) dX3_isDraft_41 (by decide) (by omega) ⟨by decide, by decide⟩ (fun c41 => by exfalso; omega) (fun c41 => ?_)
    refine z_aload_0 dX3_isDraft_44 ?_
    refine z_iload_1 dX3_isDraft_45 ?_
    refine z_iload_2 dX3_isDraft_46 ?_
    refine z_callV mX3_sign [.int (zI a), .int (zI i)] dX3_isDraft_47 zk_X3_sign zl_X3_49 ⟨Nat.le_of_ble_eq_true rfl, Nat.le_of_ble_eq_true rfl⟩ rfl rfl (Nat.le_of_ble_eq_true rfl) (Nat.le_of_ble_eq_true rfl) ?_
    refine M_X3_sign a i (by omega) (by omega) (by omega) hln ?_
    refine z_b1 ?_
    have w2 := zns_R (σ.2 13) (σ.2 14) (σ.1 5 3) a i (fun q => hR.2 13 q)
    refine z_aload_0 dX3_isDraft_50 ?_
    refine z_getR (j := 2) dX3_isDraft_51 zf_X3_18 rfl rfl ?_
    refine z_iload_2 dX3_isDraft_54 ?_
    refine z_iald dX3_isDraft_55 rfl (by decide) (by omega) (by omega) ?_
    have w3 : zR (σ.2 15 i) := hR.2 15 i
    refine z_icmp_eq (tgt := 61) dX3_isDraft_56 (by decide) (by omega) (by omega) (fun c56 => ?_) (fun c56 => ?_)
    · refine z_iinc_2 dX3_isDraft_61 (Nat.le_of_ble_eq_true rfl) rfl ?_
      refine z_goto (tgt := 25) dX3_isDraft_64 (by decide) ?_
      exact ih (i + 1) (by omega) (by omega) (fun k q0 q1 => by
        rcases Decidable.em (k = i) with q | q
        · subst q; omega
        · exact hk k q0 (by omega))
    · refine z_iconst 0 dX3_isDraft_59 rfl ?_
      refine z_zret dX3_isDraft_60 rfl (Or.inl rfl) ?_
      exact h0 (fun q => by have := q.2 i hi0 (by omega); omega)

set_option maxRecDepth 100000 in
theorem M_X3_isDraft {G : zG} {σ : zSt} {Post : Option Value → zSt → Prop} (a : Int) (ha0 : 0 ≤ a) (ha : a < σ.1 5 3) (hsz0 : 0 ≤ σ.1 5 3) (hsz : σ.1 5 3 ≤ 150) (hd0 : 0 ≤ σ.1 5 4) (hln : ∀ q, 0 ≤ σ.2 14 q ∧ σ.2 14 q ≤ 40) (h1 : zisD σ a → Post (some (.int (zI 1))) σ) (h0 : ¬ zisD σ a → Post (some (.int (zI 0))) σ) : zV G shC mX3_isDraft 0 (zini 3 [.ref (zad G 5), .int (zI a)]) [] σ Post := by
  refine z_rg (fun hR => ?_)
  refine z_lv (lv' := [some (.ref (zad G 5)), some (.int (zI a)), none]) rfl ?_
  have hln1 := hln a
  refine z_aload_0 dX3_isDraft_0 ?_
  refine z_iload_1 dX3_isDraft_1 ?_
  refine z_callV mX3_has [.int (zI a)] dX3_isDraft_2 zk_X3_has zl_X3_25 ⟨Nat.le_of_ble_eq_true rfl, Nat.le_of_ble_eq_true rfl⟩ rfl rfl (Nat.le_of_ble_eq_true rfl) (Nat.le_of_ble_eq_true rfl) ?_
  refine M_X3_has a (by omega) (by omega) (fun i1 i2 => ?_) (fun i1 => by exfalso; omega)
  refine z_b1 ?_
  refine z_if_eq (tgt := 21) dX3_isDraft_5 (by decide) ⟨by decide, by decide⟩ (fun c5 => by exfalso; omega) (fun c5 => ?_)
  refine z_aload_0 dX3_isDraft_8 ?_
  refine z_getR (j := 1) dX3_isDraft_9 zf_X3_15 rfl rfl ?_
  refine z_iload_1 dX3_isDraft_12 ?_
  refine z_iald dX3_isDraft_13 rfl (by decide) (by omega) (by omega) ?_
  have w1 : zR (σ.2 14 a) := hR.2 14 a
  refine z_aload_0 dX3_isDraft_14 ?_
  refine z_callV mX3_draftLength [] dX3_isDraft_15 zk_X3_draftLength zl_X3_35 ⟨Nat.le_of_ble_eq_true rfl, Nat.le_of_ble_eq_true rfl⟩ rfl rfl (Nat.le_of_ble_eq_true rfl) (Nat.le_of_ble_eq_true rfl) ?_
  refine M_X3_draftLength ?_
  refine z_b1 ?_
  have w2 := zdl_R (d := σ.1 5 4) (by omega)
  refine z_icmp_eq (tgt := 23) dX3_isDraft_18 (by decide) (by omega) (by omega) (fun c18 => ?_) (fun c18 => ?_)
  · refine z_iconst 0 dX3_isDraft_23 rfl ?_
    refine z_istore_2 dX3_isDraft_24 (Nat.le_of_ble_eq_true rfl) rfl ?_
    exact L_X3_isDraft a hR ha0 ha hsz0 hsz hln (by omega) h1 h0 (σ.2 14 a).toNat 0 (by omega) (by omega) (fun k q0 q1 => by omega)
  · refine z_iconst 0 dX3_isDraft_21 rfl ?_
    refine z_zret dX3_isDraft_22 rfl (Or.inl rfl) ?_
    exact h0 (fun q => by have := q.1; omega)

set_option maxRecDepth 100000 in
theorem L_X3_number {G : zG} {σ : zSt} {Post : Option Value → zSt → Prop} (hR : zRg σ) (hsz0 : 0 ≤ σ.1 5 3) (hsz : σ.1 5 3 ≤ 150) (hd0 : 0 ≤ σ.1 5 4) (hln : ∀ q, 0 ≤ σ.2 14 q ∧ σ.2 14 q ≤ 40) (h1 : ∀ j, 0 ≤ j → j < σ.1 5 3 → zisD σ j → (∀ i, 0 ≤ i → i < j → ¬ zisD σ i) → Post (some (.int (zI j))) σ) (h2 : (∀ j, 0 ≤ j → j < σ.1 5 3 → ¬ zisD σ j) → σ.1 5 3 < 150 → Post (some (.int (zI (σ.1 5 3)))) (zsF (zsA (zsC σ 15 0 13 (σ.1 5 3 * 40) (zdl (σ.1 5 4))) 14 (σ.1 5 3) (zdl (σ.1 5 4))) 5 3 (σ.1 5 3 + 1))) (h0 : (∀ j, 0 ≤ j → j < σ.1 5 3 → ¬ zisD σ j) → σ.1 5 3 = 150 → Post (some (.int (zI (-1)))) σ) : ∀ (m : Nat) (i : Int) (hi0 : 0 ≤ i) (hm : i + m = σ.1 5 3) (hk : ∀ j, 0 ≤ j → j < i → ¬ zisD σ j), zV G shC mX3_numberOfDraft 2 [some (.ref (zad G 5)), some (.int (zI i))] [] σ Post := by
  intro m
  induction m with
  | zero =>
    intro i hi0 hm hk
    refine z_iload_1 dX3_numberOfDraft_2 ?_
    refine z_aload_0 dX3_numberOfDraft_3 ?_
    refine z_getI (j := 3) dX3_numberOfDraft_4 zf_X3_21 rfl rfl ?_
    have w1 : zR (σ.1 5 3) := hR.1 5 3
    refine z_icmp_ge (tgt := 26) dX3_numberOfDraft_7 (by decide) (by omega) (by omega) (fun c7 => ?_) (fun c7 => by exfalso; omega)
    refine z_aload_0 dX3_numberOfDraft_26 ?_
    refine z_getI (j := 3) dX3_numberOfDraft_27 zf_X3_21 rfl rfl ?_
    have w2 : zR (σ.1 5 3) := hR.1 5 3
    refine z_if_lt (tgt := 45) dX3_numberOfDraft_30 (by decide) (by omega) (fun c30 => by exfalso; omega) (fun c30 => ?_)
    refine z_aload_0 dX3_numberOfDraft_33 ?_
    refine z_getI (j := 3) dX3_numberOfDraft_34 zf_X3_21 rfl rfl ?_
    have w3 : zR (σ.1 5 3) := hR.1 5 3
    refine z_aload_0 dX3_numberOfDraft_37 ?_
    refine z_getR (j := 1) dX3_numberOfDraft_38 zf_X3_15 rfl rfl ?_
    refine z_alenI dX3_numberOfDraft_41 rfl ?_
    refine z_top (b := 150) rfl ?_
    refine z_icmp_lt (tgt := 47) dX3_numberOfDraft_42 (by decide) (by omega) ⟨by decide, by decide⟩ (fun c42 => ?_) (fun c42 => ?_)
    · refine z_aload_0 dX3_numberOfDraft_47 ?_
      refine z_callV mX3_draftLength [] dX3_numberOfDraft_48 zk_X3_draftLength zl_X3_35 ⟨Nat.le_of_ble_eq_true rfl, Nat.le_of_ble_eq_true rfl⟩ rfl rfl (Nat.le_of_ble_eq_true rfl) (Nat.le_of_ble_eq_true rfl) ?_
      refine M_X3_draftLength ?_
      refine z_b1 ?_
      have w4 := zdl_R (d := σ.1 5 4) (by omega)
      refine z_istore_1 dX3_numberOfDraft_51 (Nat.le_of_ble_eq_true rfl) rfl ?_
      refine z_aload_0 dX3_numberOfDraft_52 ?_
      refine z_getR (j := 2) dX3_numberOfDraft_53 zf_X3_18 rfl rfl ?_
      refine z_iconst 0 dX3_numberOfDraft_56 rfl ?_
      refine z_aload_0 dX3_numberOfDraft_57 ?_
      refine z_getR (j := 0) dX3_numberOfDraft_58 zf_X3_9 rfl rfl ?_
      refine z_aload_0 dX3_numberOfDraft_61 ?_
      refine z_getI (j := 3) dX3_numberOfDraft_62 zf_X3_21 rfl rfl ?_
      have w5 : zR (σ.1 5 3) := hR.1 5 3
      refine z_bipush 40 dX3_numberOfDraft_65 (by decide +kernel) ?_
      refine z_imul dX3_numberOfDraft_67 ?_
      refine z_iload_1 dX3_numberOfDraft_68 ?_
      refine z_copy dX3_numberOfDraft_69 zl_X3_39 zn_native zn_static zn_initialized rfl rfl (by decide) (by decide) (by omega) (by omega) (by omega) (by omega) (by omega) ⟨Nat.le_of_ble_eq_true rfl, by decide +kernel⟩ (Nat.le_of_ble_eq_true rfl) ?_
      refine z_aload_0 dX3_numberOfDraft_72 ?_
      refine z_getR (j := 1) dX3_numberOfDraft_73 zf_X3_15 rfl rfl ?_
      refine z_aload_0 dX3_numberOfDraft_76 ?_
      refine z_getI (j := 3) dX3_numberOfDraft_77 zf_X3_21 rfl rfl ?_
      refine z_top (b := σ.1 5 3) zsC_F ?_
      have w6 : zR (σ.1 5 3) := hR.1 5 3
      refine z_iload_1 dX3_numberOfDraft_80 ?_
      refine z_iast dX3_numberOfDraft_81 rfl (by decide) (by omega) (by omega) (by omega) ?_
      refine z_aload_0 dX3_numberOfDraft_82 ?_
      refine z_dup dX3_numberOfDraft_83 rfl ?_
      refine z_getI (j := 3) dX3_numberOfDraft_84 zf_X3_21 rfl rfl ?_
      refine z_top (b := σ.1 5 3) (zsA_F.trans zsC_F) ?_
      have w7 : zR (σ.1 5 3) := hR.1 5 3
      refine z_iconst 1 dX3_numberOfDraft_87 rfl ?_
      refine z_iadd dX3_numberOfDraft_88 ?_
      refine z_putI (j := 3) dX3_numberOfDraft_89 zp_X3_21 rfl rfl (by omega) ?_
      refine z_aload_0 dX3_numberOfDraft_92 ?_
      refine z_getI (j := 3) dX3_numberOfDraft_93 zf_X3_21 rfl rfl ?_
      refine z_top (b := ((σ.1 5 3) + 1)) zsF_eq ?_
      refine z_iconst 1 dX3_numberOfDraft_96 rfl ?_
      refine z_isub dX3_numberOfDraft_97 ?_
      refine z_iret dX3_numberOfDraft_98 rfl ?_
      exact zPe (h2 (fun j q0 q1 => hk j q0 (by omega)) (by omega)) (by omega)
    · refine z_iconst (-1) dX3_numberOfDraft_45 rfl ?_
      refine z_iret dX3_numberOfDraft_46 rfl ?_
      exact h0 (fun j q0 q1 => hk j q0 (by omega)) (by omega)
  | succ m ih =>
    intro i hi0 hm hk
    refine z_iload_1 dX3_numberOfDraft_2 ?_
    refine z_aload_0 dX3_numberOfDraft_3 ?_
    refine z_getI (j := 3) dX3_numberOfDraft_4 zf_X3_21 rfl rfl ?_
    have w1 : zR (σ.1 5 3) := hR.1 5 3
    refine z_icmp_ge (tgt := 26) dX3_numberOfDraft_7 (by decide) (by omega) (by omega) (fun c7 => by exfalso; omega) (fun c7 => ?_)
    refine z_aload_0 dX3_numberOfDraft_10 ?_
    refine z_iload_1 dX3_numberOfDraft_11 ?_
    refine z_callV mX3_isDraft [.int (zI i)] dX3_numberOfDraft_12 zk_X3_isDraft zl_X3_32 ⟨Nat.le_of_ble_eq_true rfl, Nat.le_of_ble_eq_true rfl⟩ rfl rfl (Nat.le_of_ble_eq_true rfl) (Nat.le_of_ble_eq_true rfl) ?_
    refine M_X3_isDraft i (by omega) (by omega) hsz0 hsz hd0 hln (fun i1 => ?_) (fun i1 => ?_)
    · refine z_b1 ?_
      refine z_if_eq (tgt := 20) dX3_numberOfDraft_15 (by decide) ⟨by decide, by decide⟩ (fun c15 => by exfalso; omega) (fun c15 => ?_)
      refine z_iload_1 dX3_numberOfDraft_18 ?_
      refine z_iret dX3_numberOfDraft_19 rfl ?_
      exact h1 i hi0 (by omega) i1 hk
    · refine z_b1 ?_
      refine z_if_eq (tgt := 20) dX3_numberOfDraft_15 (by decide) ⟨by decide, by decide⟩ (fun c15 => ?_) (fun c15 => by exfalso; omega)
      refine z_iinc_1 dX3_numberOfDraft_20 (Nat.le_of_ble_eq_true rfl) rfl ?_
      refine z_goto (tgt := 2) dX3_numberOfDraft_23 (by decide) ?_
      exact ih (i + 1) (by omega) (by omega) (fun k q0 q1 => by
        rcases Decidable.em (k = i) with q | q
        · subst q; exact i1
        · exact hk k q0 (by omega))

set_option maxRecDepth 100000 in
theorem M_X3_numberOfDraft {G : zG} {σ : zSt} {Post : Option Value → zSt → Prop} (hsz0 : 0 ≤ σ.1 5 3) (hsz : σ.1 5 3 ≤ 150) (hd0 : 0 ≤ σ.1 5 4) (hln : ∀ q, 0 ≤ σ.2 14 q ∧ σ.2 14 q ≤ 40) (h1 : ∀ j, 0 ≤ j → j < σ.1 5 3 → zisD σ j → (∀ i, 0 ≤ i → i < j → ¬ zisD σ i) → Post (some (.int (zI j))) σ) (h2 : (∀ j, 0 ≤ j → j < σ.1 5 3 → ¬ zisD σ j) → σ.1 5 3 < 150 → Post (some (.int (zI (σ.1 5 3)))) (zsF (zsA (zsC σ 15 0 13 (σ.1 5 3 * 40) (zdl (σ.1 5 4))) 14 (σ.1 5 3) (zdl (σ.1 5 4))) 5 3 (σ.1 5 3 + 1))) (h0 : (∀ j, 0 ≤ j → j < σ.1 5 3 → ¬ zisD σ j) → σ.1 5 3 = 150 → Post (some (.int (zI (-1)))) σ) : zV G shC mX3_numberOfDraft 0 (zini 2 [.ref (zad G 5)]) [] σ Post := by
  refine z_rg (fun hR => ?_)
  refine z_lv (lv' := [some (.ref (zad G 5)), none]) rfl ?_
  refine z_iconst 0 dX3_numberOfDraft_0 rfl ?_
  refine z_istore_1 dX3_numberOfDraft_1 (Nat.le_of_ble_eq_true rfl) rfl ?_
  exact L_X3_number hR hsz0 hsz hd0 hln h1 h2 h0 (σ.1 5 3).toNat 0 (by omega) (by omega) (fun k q0 q1 => by omega)

set_option maxRecDepth 100000 in
theorem L_X3_areSame {G : zG} {σ : zSt} {Post : Option Value → zSt → Prop} (a b : Int) (ha : zR a) (hb : zR b) (hR : zRg σ) (hsz : σ.1 5 3 ≤ 150) (hln : ∀ q, 0 ≤ σ.2 14 q ∧ σ.2 14 q ≤ 40) (w : Int) (hw0 : 0 ≤ w) (hw : w ≤ 40) (hd : zns (σ.2 13) (σ.2 14) (σ.1 5 3) a w ≠ zns (σ.2 13) (σ.2 14) (σ.1 5 3) b w) (h0 : Post (some (.int (zI 0))) σ) : ∀ (m : Nat) (i : Int) (hi0 : 0 ≤ i) (hm : i + m = w), zV G shC mX3_areSame 2 [some (.ref (zad G 5)), some (.int (zI a)), some (.int (zI b)), some (.int (zI i))] [] σ Post := by
  intro m
  induction m with
  | zero =>
    intro i hi0 hm
    have e : i = w := by omega
    subst e
    refine z_iload_3 dX3_areSame_2 ?_
    refine z_bipush 40 dX3_areSame_3 (by decide +kernel) ?_
    refine z_icmp_gt (tgt := 31) dX3_areSame_5 (by decide) (by omega) ⟨by decide, by decide⟩ (fun c5 => by exfalso; omega) (fun c5 => ?_)
    refine z_aload_0 dX3_areSame_8 ?_
    refine z_iload_1 dX3_areSame_9 ?_
    refine z_iload_3 dX3_areSame_10 ?_
    refine z_callV mX3_sign [.int (zI a), .int (zI i)] dX3_areSame_11 zk_X3_sign zl_X3_49 ⟨Nat.le_of_ble_eq_true rfl, Nat.le_of_ble_eq_true rfl⟩ rfl rfl (Nat.le_of_ble_eq_true rfl) (Nat.le_of_ble_eq_true rfl) ?_
    refine M_X3_sign a i (by omega) (by omega) (by omega) hln ?_
    refine z_b1 ?_
    have w1 := zns_R (σ.2 13) (σ.2 14) (σ.1 5 3) a i (fun q => hR.2 13 q)
    refine z_aload_0 dX3_areSame_14 ?_
    refine z_iload_2 dX3_areSame_15 ?_
    refine z_iload_3 dX3_areSame_16 ?_
    refine z_callV mX3_sign [.int (zI b), .int (zI i)] dX3_areSame_17 zk_X3_sign zl_X3_49 ⟨Nat.le_of_ble_eq_true rfl, Nat.le_of_ble_eq_true rfl⟩ rfl rfl (Nat.le_of_ble_eq_true rfl) (Nat.le_of_ble_eq_true rfl) ?_
    refine M_X3_sign b i (by omega) (by omega) (by omega) hln ?_
    refine z_b1 ?_
    have w2 := zns_R (σ.2 13) (σ.2 14) (σ.1 5 3) b i (fun q => hR.2 13 q)
    refine z_icmp_eq (tgt := 25) dX3_areSame_20 (by decide) (by omega) (by omega) (fun c20 => by exfalso; omega) (fun c20 => ?_)
    refine z_iconst 0 dX3_areSame_23 rfl ?_
    refine z_zret dX3_areSame_24 rfl (Or.inl rfl) ?_
    exact h0
  | succ m ih =>
    intro i hi0 hm
    refine z_iload_3 dX3_areSame_2 ?_
    refine z_bipush 40 dX3_areSame_3 (by decide +kernel) ?_
    refine z_icmp_gt (tgt := 31) dX3_areSame_5 (by decide) (by omega) ⟨by decide, by decide⟩ (fun c5 => by exfalso; omega) (fun c5 => ?_)
    refine z_aload_0 dX3_areSame_8 ?_
    refine z_iload_1 dX3_areSame_9 ?_
    refine z_iload_3 dX3_areSame_10 ?_
    refine z_callV mX3_sign [.int (zI a), .int (zI i)] dX3_areSame_11 zk_X3_sign zl_X3_49 ⟨Nat.le_of_ble_eq_true rfl, Nat.le_of_ble_eq_true rfl⟩ rfl rfl (Nat.le_of_ble_eq_true rfl) (Nat.le_of_ble_eq_true rfl) ?_
    refine M_X3_sign a i (by omega) (by omega) (by omega) hln ?_
    refine z_b1 ?_
    have w1 := zns_R (σ.2 13) (σ.2 14) (σ.1 5 3) a i (fun q => hR.2 13 q)
    refine z_aload_0 dX3_areSame_14 ?_
    refine z_iload_2 dX3_areSame_15 ?_
    refine z_iload_3 dX3_areSame_16 ?_
    refine z_callV mX3_sign [.int (zI b), .int (zI i)] dX3_areSame_17 zk_X3_sign zl_X3_49 ⟨Nat.le_of_ble_eq_true rfl, Nat.le_of_ble_eq_true rfl⟩ rfl rfl (Nat.le_of_ble_eq_true rfl) (Nat.le_of_ble_eq_true rfl) ?_
    refine M_X3_sign b i (by omega) (by omega) (by omega) hln ?_
    refine z_b1 ?_
    have w2 := zns_R (σ.2 13) (σ.2 14) (σ.1 5 3) b i (fun q => hR.2 13 q)
    refine z_icmp_eq (tgt := 25) dX3_areSame_20 (by decide) (by omega) (by omega) (fun c20 => ?_) (fun c20 => ?_)
    · refine z_iinc_3 dX3_areSame_25 (Nat.le_of_ble_eq_true rfl) rfl ?_
      refine z_goto (tgt := 2) dX3_areSame_28 (by decide) ?_
      exact ih (i + 1) (by omega) (by omega)
    · refine z_iconst 0 dX3_areSame_23 rfl ?_
      refine z_zret dX3_areSame_24 rfl (Or.inl rfl) ?_
      exact h0

set_option maxRecDepth 100000 in
theorem M_X3_areSame {G : zG} {σ : zSt} {Post : Option Value → zSt → Prop} (a b : Int) (ha : zR a) (hb : zR b) (hsz : σ.1 5 3 ≤ 150) (hln : ∀ q, 0 ≤ σ.2 14 q ∧ σ.2 14 q ≤ 40) (hd : ∃ w, 0 ≤ w ∧ w ≤ 40 ∧ zns (σ.2 13) (σ.2 14) (σ.1 5 3) a w ≠ zns (σ.2 13) (σ.2 14) (σ.1 5 3) b w) (h0 : Post (some (.int (zI 0))) σ) : zV G shC mX3_areSame 0 (zini 4 [.ref (zad G 5), .int (zI a), .int (zI b)]) [] σ Post := by
  refine z_rg (fun hR => ?_)
  refine z_lv (lv' := [some (.ref (zad G 5)), some (.int (zI a)), some (.int (zI b)), none]) rfl ?_
  obtain ⟨w, hw0, hw, hd⟩ := hd
  refine z_iconst 0 dX3_areSame_0 rfl ?_
  refine z_istore_3 dX3_areSame_1 (Nat.le_of_ble_eq_true rfl) rfl ?_
  exact L_X3_areSame a b ha hb hR hsz hln w hw0 hw hd h0 w.toNat 0 (by omega) (by omega)

set_option maxRecDepth 100000 in
theorem L_X3_allD1 {G : zG} {σ : zSt} {Post : Option Value → zSt → Prop} (a : Int) (hR : zRg σ) (ha0 : 0 ≤ a) (ha : a < σ.1 5 3) (hsz : σ.1 5 3 ≤ 150) (hln : ∀ q, 0 ≤ σ.2 14 q ∧ σ.2 14 q ≤ 40) (hd : ∀ a b, 0 ≤ b → b < a → a < σ.1 5 3 → ∃ w, 0 ≤ w ∧ w ≤ 40 ∧ zns (σ.2 13) (σ.2 14) (σ.1 5 3) a w ≠ zns (σ.2 13) (σ.2 14) (σ.1 5 3) b w) (h : zV G shC mX3_allDiffer 34 [some (.ref (zad G 5)), some (.int (zI a)), some (.int (zI a))] [] σ Post) : ∀ (m : Nat) (i : Int) (hi0 : 0 ≤ i) (hm : i + m = a), zV G shC mX3_allDiffer 12 [some (.ref (zad G 5)), some (.int (zI a)), some (.int (zI i))] [] σ Post := by
  intro m
  induction m with
  | zero =>
    intro i hi0 hm
    refine z_iload_2 dX3_allDiffer_12 ?_
    refine z_iload_1 dX3_allDiffer_13 ?_
    refine z_icmp_ge (tgt := 34) dX3_allDiffer_14 (by decide) (by omega) (by omega) (fun c14 => ?_) (fun c14 => by exfalso; omega)
    have e : i = a := by omega
    subst e
    exact h
  | succ m ih =>
    intro i hi0 hm
    refine z_iload_2 dX3_allDiffer_12 ?_
    refine z_iload_1 dX3_allDiffer_13 ?_
    refine z_icmp_ge (tgt := 34) dX3_allDiffer_14 (by decide) (by omega) (by omega) (fun c14 => by exfalso; omega) (fun c14 => ?_)
    refine z_aload_0 dX3_allDiffer_17 ?_
    refine z_iload_1 dX3_allDiffer_18 ?_
    refine z_iload_2 dX3_allDiffer_19 ?_
    refine z_callV mX3_areSame [.int (zI a), .int (zI i)] dX3_allDiffer_20 zk_X3_areSame zl_X3_53 ⟨Nat.le_of_ble_eq_true rfl, Nat.le_of_ble_eq_true rfl⟩ rfl rfl (Nat.le_of_ble_eq_true rfl) (Nat.le_of_ble_eq_true rfl) ?_
    refine M_X3_areSame a i (by omega) (by omega) hsz hln (hd _ _ (by omega) (by omega) (by omega)) ?_
    refine z_b1 ?_
    refine z_if_eq (tgt := 28) dX3_allDiffer_23 (by decide) ⟨by decide, by decide⟩ (fun c23 => ?_) (fun c23 => by exfalso; omega)
    refine z_iinc_2 dX3_allDiffer_28 (Nat.le_of_ble_eq_true rfl) rfl ?_
    refine z_goto (tgt := 12) dX3_allDiffer_31 (by decide) ?_
    exact ih (i + 1) (by omega) (by omega)

set_option maxRecDepth 100000 in
theorem L_X3_allD2 {G : zG} {σ : zSt} {Post : Option Value → zSt → Prop} (hR : zRg σ) (hsz : σ.1 5 3 ≤ 150) (hln : ∀ q, 0 ≤ σ.2 14 q ∧ σ.2 14 q ≤ 40) (hd : ∀ a b, 0 ≤ b → b < a → a < σ.1 5 3 → ∃ w, 0 ≤ w ∧ w ≤ 40 ∧ zns (σ.2 13) (σ.2 14) (σ.1 5 3) a w ≠ zns (σ.2 13) (σ.2 14) (σ.1 5 3) b w) (h : Post (some (.int (zI 1))) σ) : ∀ (m : Nat) (i : Int) (x : Option Value) (hi0 : 0 ≤ i) (hm : i + m = σ.1 5 3), zV G shC mX3_allDiffer 2 [some (.ref (zad G 5)), some (.int (zI i)), x] [] σ Post := by
  intro m
  induction m with
  | zero =>
    intro i x hi0 hm
    refine z_iload_1 dX3_allDiffer_2 ?_
    refine z_aload_0 dX3_allDiffer_3 ?_
    refine z_getI (j := 3) dX3_allDiffer_4 zf_X3_21 rfl rfl ?_
    have w1 : zR (σ.1 5 3) := hR.1 5 3
    refine z_icmp_ge (tgt := 40) dX3_allDiffer_7 (by decide) (by omega) (by omega) (fun c7 => ?_) (fun c7 => by exfalso; omega)
    refine z_iconst 1 dX3_allDiffer_40 rfl ?_
    refine z_zret dX3_allDiffer_41 rfl (Or.inr rfl) ?_
    exact h
  | succ m ih =>
    intro i x hi0 hm
    refine z_iload_1 dX3_allDiffer_2 ?_
    refine z_aload_0 dX3_allDiffer_3 ?_
    refine z_getI (j := 3) dX3_allDiffer_4 zf_X3_21 rfl rfl ?_
    have w1 : zR (σ.1 5 3) := hR.1 5 3
    refine z_icmp_ge (tgt := 40) dX3_allDiffer_7 (by decide) (by omega) (by omega) (fun c7 => by exfalso; omega) (fun c7 => ?_)
    refine z_iconst 0 dX3_allDiffer_10 rfl ?_
    refine z_istore_2 dX3_allDiffer_11 (Nat.le_of_ble_eq_true rfl) rfl ?_
    refine L_X3_allD1 i hR hi0 (by omega) hsz hln hd ?_ i.toNat 0 (by omega) (by omega)
    refine z_iinc_1 dX3_allDiffer_34 (Nat.le_of_ble_eq_true rfl) rfl ?_
    refine z_goto (tgt := 2) dX3_allDiffer_37 (by decide) ?_
    exact ih (i + 1) _ (by omega) (by omega)

set_option maxRecDepth 100000 in
theorem M_X3_allDiffer {G : zG} {σ : zSt} {Post : Option Value → zSt → Prop} (hsz0 : 0 ≤ σ.1 5 3) (hsz : σ.1 5 3 ≤ 150) (hln : ∀ q, 0 ≤ σ.2 14 q ∧ σ.2 14 q ≤ 40) (hd : ∀ a b, 0 ≤ b → b < a → a < σ.1 5 3 → ∃ w, 0 ≤ w ∧ w ≤ 40 ∧ zns (σ.2 13) (σ.2 14) (σ.1 5 3) a w ≠ zns (σ.2 13) (σ.2 14) (σ.1 5 3) b w) (h : Post (some (.int (zI 1))) σ) : zV G shC mX3_allDiffer 0 (zini 3 [.ref (zad G 5)]) [] σ Post := by
  refine z_rg (fun hR => ?_)
  refine z_lv (lv' := [some (.ref (zad G 5)), none, none]) rfl ?_
  refine z_iconst 0 dX3_allDiffer_0 rfl ?_
  refine z_istore_1 dX3_allDiffer_1 (Nat.le_of_ble_eq_true rfl) rfl ?_
  exact L_X3_allD2 hR hsz hln hd h (σ.1 5 3).toNat 0 none (by omega) (by omega)

def zpt (σ : zSt) (c : Nat) (b v0 v1 v2 v3 v4 v5 : Int) : zSt := zsA (zsA (zsA (zsA (zsA (zsA σ c b v0) c (b + 1) v1) c (b + 2) v2) c (b + 3) v3) c (b + 4) v4) c (b + 5) v5
def zrp (σ : zSt) (c : Nat) (b v0 v1 v2 : Int) : zSt := zsA (zsA (zsA σ c b v0) c (b + 1) v1) c (b + 2) v2

set_option maxRecDepth 100000 in
theorem M_X5_isFull {G : zG} {σ : zSt} {Post : Option Value → zSt → Prop} (h1 : 600 ≤ σ.1 6 1 → Post (some (.int (zI 1))) σ) (h0 : σ.1 6 1 < 600 → Post (some (.int (zI 0))) σ) : zV G shC mX5_isFull 0 (zini 1 [.ref (zad G 6)]) [] σ Post := by
  refine z_rg (fun hR => ?_)
  refine z_lv (lv' := [some (.ref (zad G 6))]) rfl ?_
  refine z_aload_0 dX5_isFull_0 ?_
  refine z_getI (j := 1) dX5_isFull_1 zf_X5_15 rfl rfl ?_
  have w1 : zR (σ.1 6 1) := hR.1 6 1
  refine z_sipush 600 dX5_isFull_4 (by decide +kernel) ?_
  refine z_icmp_lt (tgt := 14) dX5_isFull_7 (by decide) (by omega) ⟨by decide, by decide⟩ (fun c7 => ?_) (fun c7 => ?_)
  · refine z_iconst 0 dX5_isFull_14 rfl ?_
    refine z_zret dX5_isFull_15 rfl (Or.inl rfl) ?_
    first | exact h1 (by omega) | exact h0 (by omega)
  · refine z_iconst 1 dX5_isFull_10 rfl ?_
    refine z_goto (tgt := 15) dX5_isFull_11 (by decide) ?_
    refine z_zret dX5_isFull_15 rfl (Or.inr rfl) ?_
    first | exact h1 (by omega) | exact h0 (by omega)

set_option maxRecDepth 100000 in
theorem M_X5_has {G : zG} {σ : zSt} {Post : Option Value → zSt → Prop} (a : Int) (ha : zR a) (h1 : 0 ≤ a → a < σ.1 6 1 → Post (some (.int (zI 1))) σ) (h0 : a < 0 ∨ σ.1 6 1 ≤ a → Post (some (.int (zI 0))) σ) : zV G shC mX5_has 0 (zini 2 [.ref (zad G 6), .int (zI a)]) [] σ Post := by
  refine z_rg (fun hR => ?_)
  refine z_lv (lv' := [some (.ref (zad G 6)), some (.int (zI a))]) rfl ?_
  refine z_iload_1 dX5_has_0 ?_
  refine z_if_lt (tgt := 16) dX5_has_1 (by decide) (by omega) (fun c1 => ?_) (fun c1 => ?_)
  · refine z_iconst 0 dX5_has_16 rfl ?_
    refine z_zret dX5_has_17 rfl (Or.inl rfl) ?_
    first | exact h1 (by omega) (by omega) | exact h0 (by omega)
  · refine z_iload_1 dX5_has_4 ?_
    refine z_aload_0 dX5_has_5 ?_
    refine z_getI (j := 1) dX5_has_6 zf_X5_15 rfl rfl ?_
    have w1 : zR (σ.1 6 1) := hR.1 6 1
    refine z_icmp_ge (tgt := 16) dX5_has_9 (by decide) (by omega) (by omega) (fun c9 => ?_) (fun c9 => ?_)
    · refine z_iconst 0 dX5_has_16 rfl ?_
      refine z_zret dX5_has_17 rfl (Or.inl rfl) ?_
      first | exact h1 (by omega) (by omega) | exact h0 (by omega)
    · refine z_iconst 1 dX5_has_12 rfl ?_
      refine z_goto (tgt := 17) dX5_has_13 (by decide) ?_
      refine z_zret dX5_has_17 rfl (Or.inr rfl) ?_
      first | exact h1 (by omega) (by omega) | exact h0 (by omega)

set_option maxRecDepth 100000 in
theorem M_X5_part {G : zG} {σ : zSt} {Post : Option Value → zSt → Prop} (a k : Int) (ha0 : 0 ≤ a) (ha : a < σ.1 6 1) (hs : σ.1 6 1 ≤ 600) (hk0 : 0 ≤ k) (hk : k < 6) (h : Post (some (.int (zI (σ.2 16 (a * 6 + k))))) σ) : zV G shC mX5_part 0 (zini 4 [.ref (zad G 6), .int (zI a), .int (zI k)]) [] σ Post := by
  refine z_rg (fun hR => ?_)
  refine z_lv (lv' := [some (.ref (zad G 6)), some (.int (zI a)), some (.int (zI k)), none]) rfl ?_
  refine z_iload_1 dX5_part_0 ?_
  refine z_bipush 6 dX5_part_1 (by decide +kernel) ?_
  refine z_imul dX5_part_3 ?_
  refine z_iload_2 dX5_part_4 ?_
  refine z_iadd dX5_part_5 ?_
  refine z_istore_3 dX5_part_6 (Nat.le_of_ble_eq_true rfl) rfl ?_
  refine z_aload_0 dX5_part_7 ?_
  refine z_iload_1 dX5_part_8 ?_
  refine z_callV mX5_has [.int (zI a)] dX5_part_9 zk_X5_has zl_X5_31 ⟨Nat.le_of_ble_eq_true rfl, Nat.le_of_ble_eq_true rfl⟩ rfl rfl (Nat.le_of_ble_eq_true rfl) (Nat.le_of_ble_eq_true rfl) ?_
  refine M_X5_has a (by omega) (fun i1 i2 => ?_) (fun i1 => by exfalso; omega)
  refine z_b1 ?_
  refine z_if_eq (tgt := 37) dX5_part_12 (by decide) ⟨by decide, by decide⟩ (fun c12 => by exfalso; omega) (fun c12 => ?_)
  refine z_iload_3 dX5_part_15 ?_
  refine z_if_lt (tgt := 37) dX5_part_16 (by decide) (by omega) (fun c16 => by exfalso; omega) (fun c16 => ?_)
  refine z_iload_3 dX5_part_19 ?_
  refine z_aload_0 dX5_part_20 ?_
  refine z_getR (j := 0) dX5_part_21 zf_X5_9 rfl rfl ?_
  refine z_alenI dX5_part_24 rfl ?_
  refine z_top (b := 3600) rfl ?_
  refine z_icmp_ge (tgt := 37) dX5_part_25 (by decide) (by omega) ⟨by decide, by decide⟩ (fun c25 => by exfalso; omega) (fun c25 => ?_)
  refine z_aload_0 dX5_part_28 ?_
  refine z_getR (j := 0) dX5_part_29 zf_X5_9 rfl rfl ?_
  refine z_iload_3 dX5_part_32 ?_
  refine z_iald dX5_part_33 rfl (by decide) (by omega) (by omega) ?_
  have w1 : zR (σ.2 16 ((a * 6) + k)) := hR.2 16 ((a * 6) + k)
  refine z_goto (tgt := 38) dX5_part_34 (by decide) ?_
  refine z_iret dX5_part_38 rfl ?_
  exact h

set_option maxRecDepth 100000 in
theorem M_X5_put {G : zG} {σ : zSt} {Post : Option Value → zSt → Prop} (k v c : Int) (t : Nat) (p : Int) (ht : t < 6) (hk : zR k) (hv : zR v) (hc : zR c) (hp : zR p) (hs0 : 0 ≤ σ.1 6 1) (hs : σ.1 6 1 ≤ 600) (hb0 : 0 ≤ σ.1 (18 + t) 2) (h1 : σ.1 6 1 < 600 → Post (some (.int (zI (σ.1 6 1)))) (zsF (zpt σ 16 (σ.1 6 1 * 6) k v c (σ.1 (18 + t) 1) (σ.1 (18 + t) 2 - 1) p) 6 1 (σ.1 6 1 + 1))) (h0 : σ.1 6 1 = 600 → Post (some (.int (zI (-4)))) σ) : zV G shC mX5_put 0 (zini 7 [.ref (zad G 6), .int (zI k), .int (zI v), .int (zI c), .ref (zad G (18 + t)), .int (zI p)]) [] σ Post := by
  refine z_rg (fun hR => ?_)
  refine z_lv (lv' := [some (.ref (zad G 6)), some (.int (zI k)), some (.int (zI v)), some (.int (zI c)), some (.ref (zad G (18 + t))), some (.int (zI p)), none]) rfl ?_
  refine z_aload_0 dX5_put_0 ?_
  refine z_getI (j := 1) dX5_put_1 zf_X5_15 rfl rfl ?_
  have w1 : zR (σ.1 6 1) := hR.1 6 1
  refine z_bipush 6 dX5_put_4 (by decide +kernel) ?_
  refine z_imul dX5_put_6 ?_
  refine z_istore_6 dX5_put_7 (Nat.le_of_ble_eq_true rfl) rfl ?_
  refine z_aload_0 dX5_put_9 ?_
  refine z_callV mX5_isFull [] dX5_put_10 zk_X5_isFull zl_X5_19 ⟨Nat.le_of_ble_eq_true rfl, Nat.le_of_ble_eq_true rfl⟩ rfl rfl (Nat.le_of_ble_eq_true rfl) (Nat.le_of_ble_eq_true rfl) ?_
  refine M_X5_isFull (fun i1 => ?_) (fun i1 => ?_)
  · refine z_b1 ?_
    refine z_if_ne (tgt := 34) dX5_put_13 (by decide) ⟨by decide, by decide⟩ (fun c13 => ?_) (fun c13 => by exfalso; omega)
    refine z_bipush (-4) dX5_put_34 (by decide +kernel) ?_
    refine z_iret dX5_put_36 rfl ?_
    exact h0 (by omega)
  · refine z_b1 ?_
    refine z_if_ne (tgt := 34) dX5_put_13 (by decide) ⟨by decide, by decide⟩ (fun c13 => by exfalso; omega) (fun c13 => ?_)
    refine z_iload_6 dX5_put_16 ?_
    refine z_if_lt (tgt := 34) dX5_put_18 (by decide) (by omega) (fun c18 => by exfalso; omega) (fun c18 => ?_)
    refine z_iload_6 dX5_put_21 ?_
    refine z_bipush 6 dX5_put_23 (by decide +kernel) ?_
    refine z_iadd dX5_put_25 ?_
    refine z_aload_0 dX5_put_26 ?_
    refine z_getR (j := 0) dX5_put_27 zf_X5_9 rfl rfl ?_
    refine z_alenI dX5_put_30 rfl ?_
    refine z_top (b := 3600) rfl ?_
    refine z_icmp_le (tgt := 37) dX5_put_31 (by decide) (by omega) ⟨by decide, by decide⟩ (fun c31 => ?_) (fun c31 => by exfalso; omega)
    refine z_aload_0 dX5_put_37 ?_
    refine z_getR (j := 0) dX5_put_38 zf_X5_9 rfl rfl ?_
    refine z_iload_6 dX5_put_41 ?_
    refine z_iload_1 dX5_put_43 ?_
    refine z_iast dX5_put_44 rfl (by decide) (by omega) (by omega) (by omega) ?_
    refine z_aload_0 dX5_put_45 ?_
    refine z_getR (j := 0) dX5_put_46 zf_X5_9 rfl rfl ?_
    refine z_iload_6 dX5_put_49 ?_
    refine z_iconst 1 dX5_put_51 rfl ?_
    refine z_iadd dX5_put_52 ?_
    refine z_iload_2 dX5_put_53 ?_
    refine z_iast dX5_put_54 rfl (by decide) (by omega) (by omega) (by omega) ?_
    refine z_aload_0 dX5_put_55 ?_
    refine z_getR (j := 0) dX5_put_56 zf_X5_9 rfl rfl ?_
    refine z_iload_6 dX5_put_59 ?_
    refine z_iconst 2 dX5_put_61 rfl ?_
    refine z_iadd dX5_put_62 ?_
    refine z_iload_3 dX5_put_63 ?_
    refine z_iast dX5_put_64 rfl (by decide) (by omega) (by omega) (by omega) ?_
    refine z_aload_0 dX5_put_65 ?_
    refine z_getR (j := 0) dX5_put_66 zf_X5_9 rfl rfl ?_
    refine z_iload_6 dX5_put_69 ?_
    refine z_iconst 3 dX5_put_71 rfl ?_
    refine z_iadd dX5_put_72 ?_
    refine z_aload_4 dX5_put_73 ?_
    refine z_getI (j := 1) dX5_put_75 zf_X5_23 (shC_lv ht) rfl ?_
    refine z_top (b := σ.1 (18 + t) 1) (zsA_F.trans (zsA_F.trans zsA_F)) ?_
    have w2 : zR (σ.1 (18 + t) 1) := hR.1 (18 + t) 1
    refine z_iast dX5_put_78 rfl (by decide) (by omega) (by omega) (by omega) ?_
    refine z_aload_0 dX5_put_79 ?_
    refine z_getR (j := 0) dX5_put_80 zf_X5_9 rfl rfl ?_
    refine z_iload_6 dX5_put_83 ?_
    refine z_iconst 4 dX5_put_85 rfl ?_
    refine z_iadd dX5_put_86 ?_
    refine z_aload_4 dX5_put_87 ?_
    refine z_getI (j := 2) dX5_put_89 zf_X5_28 (shC_lv ht) rfl ?_
    refine z_top (b := σ.1 (18 + t) 2) (zsA_F.trans (zsA_F.trans (zsA_F.trans zsA_F))) ?_
    have w3 : zR (σ.1 (18 + t) 2) := hR.1 (18 + t) 2
    refine z_iconst 1 dX5_put_92 rfl ?_
    refine z_isub dX5_put_93 ?_
    refine z_iast dX5_put_94 rfl (by decide) (by omega) (by omega) (by omega) ?_
    refine z_aload_0 dX5_put_95 ?_
    refine z_getR (j := 0) dX5_put_96 zf_X5_9 rfl rfl ?_
    refine z_iload_6 dX5_put_99 ?_
    refine z_iconst 5 dX5_put_101 rfl ?_
    refine z_iadd dX5_put_102 ?_
    refine z_iload_5 dX5_put_103 ?_
    refine z_iast dX5_put_105 rfl (by decide) (by omega) (by omega) (by omega) ?_
    refine z_aload_0 dX5_put_106 ?_
    refine z_dup dX5_put_107 rfl ?_
    refine z_getI (j := 1) dX5_put_108 zf_X5_15 rfl rfl ?_
    refine z_top (b := σ.1 6 1) (zsA_F.trans (zsA_F.trans (zsA_F.trans (zsA_F.trans (zsA_F.trans zsA_F))))) ?_
    have w4 : zR (σ.1 6 1) := hR.1 6 1
    refine z_iconst 1 dX5_put_111 rfl ?_
    refine z_iadd dX5_put_112 ?_
    refine z_putI (j := 1) dX5_put_113 zp_X5_15 rfl rfl (by omega) ?_
    refine z_aload_0 dX5_put_116 ?_
    refine z_getI (j := 1) dX5_put_117 zf_X5_15 rfl rfl ?_
    refine z_top (b := ((σ.1 6 1) + 1)) zsF_eq ?_
    refine z_iconst 1 dX5_put_120 rfl ?_
    refine z_isub dX5_put_121 ?_
    refine z_iret dX5_put_122 rfl ?_
    exact zPe (h1 (by omega)) (by omega)

set_option maxRecDepth 100000 in
theorem M_X4_report {G : zG} {σ : zSt} {Post : Option Value → zSt → Prop} (a b c : Int) (ha : zR a) (hb : zR b) (hc : zR c) (hs0 : 0 ≤ σ.1 7 1) (hs : σ.1 7 1 < 2147483647) (h1 : σ.1 7 1 < 100 → Post none (zsF (zrp σ 17 (σ.1 7 1 * 3) a b c) 7 1 (σ.1 7 1 + 1))) (h0 : 100 ≤ σ.1 7 1 → Post none (zsF σ 7 1 (σ.1 7 1 + 1))) : zV G shC mX4_report 0 (zini 5 [.ref (zad G 7), .int (zI a), .int (zI b), .int (zI c)]) [] σ Post := by
  refine z_rg (fun hR => ?_)
  refine z_lv (lv' := [some (.ref (zad G 7)), some (.int (zI a)), some (.int (zI b)), some (.int (zI c)), none]) rfl ?_
  refine z_aload_0 dX4_report_0 ?_
  refine z_getI (j := 1) dX4_report_1 zf_X4_15 rfl rfl ?_
  have w1 : zR (σ.1 7 1) := hR.1 7 1
  refine z_iconst 3 dX4_report_4 rfl ?_
  refine z_imul dX4_report_5 ?_
  refine z_istore_4 dX4_report_6 (Nat.le_of_ble_eq_true rfl) rfl ?_
  refine z_aload_0 dX4_report_8 ?_
  refine z_getI (j := 1) dX4_report_9 zf_X4_15 rfl rfl ?_
  have w2 : zR (σ.1 7 1) := hR.1 7 1
  refine z_if_lt (tgt := 64) dX4_report_12 (by decide) (by omega) (fun c12 => by exfalso; omega) (fun c12 => ?_)
  refine z_aload_0 dX4_report_15 ?_
  refine z_getI (j := 1) dX4_report_16 zf_X4_15 rfl rfl ?_
  have w3 : zR (σ.1 7 1) := hR.1 7 1
  refine z_bipush 100 dX4_report_19 (by decide +kernel) ?_
  refine z_icmp_ge (tgt := 64) dX4_report_21 (by decide) (by omega) ⟨by decide, by decide⟩ (fun c21 => ?_) (fun c21 => ?_)
  · refine z_aload_0 dX4_report_64 ?_
    refine z_dup dX4_report_65 rfl ?_
    refine z_getI (j := 1) dX4_report_66 zf_X4_15 rfl rfl ?_
    have w4 : zR (σ.1 7 1) := hR.1 7 1
    refine z_iconst 1 dX4_report_69 rfl ?_
    refine z_iadd dX4_report_70 ?_
    refine z_putI (j := 1) dX4_report_71 zp_X4_15 rfl rfl (by omega) ?_
    refine z_vret dX4_report_74 rfl ?_
    first | exact h1 (by omega) | exact h0 (by omega)
  · refine z_iload_4 dX4_report_24 ?_
    refine z_iconst 3 dX4_report_26 rfl ?_
    refine z_iadd dX4_report_27 ?_
    refine z_aload_0 dX4_report_28 ?_
    refine z_getR (j := 0) dX4_report_29 zf_X4_9 rfl rfl ?_
    refine z_alenI dX4_report_32 rfl ?_
    refine z_top (b := 300) rfl ?_
    refine z_icmp_gt (tgt := 64) dX4_report_33 (by decide) (by omega) ⟨by decide, by decide⟩ (fun c33 => by exfalso; omega) (fun c33 => ?_)
    refine z_aload_0 dX4_report_36 ?_
    refine z_getR (j := 0) dX4_report_37 zf_X4_9 rfl rfl ?_
    refine z_iload_4 dX4_report_40 ?_
    refine z_iload_1 dX4_report_42 ?_
    refine z_iast dX4_report_43 rfl (by decide) (by omega) (by omega) (by omega) ?_
    refine z_aload_0 dX4_report_44 ?_
    refine z_getR (j := 0) dX4_report_45 zf_X4_9 rfl rfl ?_
    refine z_iload_4 dX4_report_48 ?_
    refine z_iconst 1 dX4_report_50 rfl ?_
    refine z_iadd dX4_report_51 ?_
    refine z_iload_2 dX4_report_52 ?_
    refine z_iast dX4_report_53 rfl (by decide) (by omega) (by omega) (by omega) ?_
    refine z_aload_0 dX4_report_54 ?_
    refine z_getR (j := 0) dX4_report_55 zf_X4_9 rfl rfl ?_
    refine z_iload_4 dX4_report_58 ?_
    refine z_iconst 2 dX4_report_60 rfl ?_
    refine z_iadd dX4_report_61 ?_
    refine z_iload_3 dX4_report_62 ?_
    refine z_iast dX4_report_63 rfl (by decide) (by omega) (by omega) (by omega) ?_
    refine z_aload_0 dX4_report_64 ?_
    refine z_dup dX4_report_65 rfl ?_
    refine z_getI (j := 1) dX4_report_66 zf_X4_15 rfl rfl ?_
    refine z_top (b := σ.1 7 1) (zsA_F.trans (zsA_F.trans zsA_F)) ?_
    have w5 : zR (σ.1 7 1) := hR.1 7 1
    refine z_iconst 1 dX4_report_69 rfl ?_
    refine z_iadd dX4_report_70 ?_
    refine z_putI (j := 1) dX4_report_71 zp_X4_15 rfl rfl (by omega) ?_
    refine z_vret dX4_report_74 rfl ?_
    first | exact h1 (by omega) | exact h0 (by omega)

set_option maxRecDepth 100000 in
theorem M_X4_part {G : zG} {σ : zSt} {Post : Option Value → zSt → Prop} (a k : Int) (ha : zR a) (hk : zR k) (hs0 : 0 ≤ σ.1 7 1) (h1 : 0 ≤ a → a < σ.1 7 1 → a < 100 → 0 ≤ k → k < 3 → Post (some (.int (zI (σ.2 17 (a * 3 + k))))) σ) (h0 : ¬ (0 ≤ a ∧ a < σ.1 7 1 ∧ a < 100 ∧ 0 ≤ k ∧ k < 3) → Post (some (.int (zI (-1)))) σ) : zV G shC mX4_part 0 (zini 4 [.ref (zad G 7), .int (zI a), .int (zI k)]) [] σ Post := by
  refine z_rg (fun hR => ?_)
  refine z_lv (lv' := [some (.ref (zad G 7)), some (.int (zI a)), some (.int (zI k)), none]) rfl ?_
  refine z_iload_1 dX4_part_0 ?_
  refine z_if_lt (tgt := 27) dX4_part_1 (by decide) (by omega) (fun c1 => ?_) (fun c1 => ?_)
  · refine z_iconst (-1) dX4_part_27 rfl ?_
    refine z_iret dX4_part_28 rfl ?_
    first | exact h1 (by omega) (by omega) (by omega) (by omega) (by omega) | exact h0 (by omega)
  · refine z_iload_1 dX4_part_4 ?_
    refine z_aload_0 dX4_part_5 ?_
    refine z_getI (j := 1) dX4_part_6 zf_X4_15 rfl rfl ?_
    have w1 : zR (σ.1 7 1) := hR.1 7 1
    refine z_icmp_ge (tgt := 27) dX4_part_9 (by decide) (by omega) (by omega) (fun c9 => ?_) (fun c9 => ?_)
    · refine z_iconst (-1) dX4_part_27 rfl ?_
      refine z_iret dX4_part_28 rfl ?_
      first | exact h1 (by omega) (by omega) (by omega) (by omega) (by omega) | exact h0 (by omega)
    · refine z_iload_1 dX4_part_12 ?_
      refine z_bipush 100 dX4_part_13 (by decide +kernel) ?_
      refine z_icmp_ge (tgt := 27) dX4_part_15 (by decide) (by omega) ⟨by decide, by decide⟩ (fun c15 => ?_) (fun c15 => ?_)
      · refine z_iconst (-1) dX4_part_27 rfl ?_
        refine z_iret dX4_part_28 rfl ?_
        first | exact h1 (by omega) (by omega) (by omega) (by omega) (by omega) | exact h0 (by omega)
      · refine z_iload_2 dX4_part_18 ?_
        refine z_if_lt (tgt := 27) dX4_part_19 (by decide) (by omega) (fun c19 => ?_) (fun c19 => ?_)
        · refine z_iconst (-1) dX4_part_27 rfl ?_
          refine z_iret dX4_part_28 rfl ?_
          first | exact h1 (by omega) (by omega) (by omega) (by omega) (by omega) | exact h0 (by omega)
        · refine z_iload_2 dX4_part_22 ?_
          refine z_iconst 3 dX4_part_23 rfl ?_
          refine z_icmp_lt (tgt := 29) dX4_part_24 (by decide) (by omega) ⟨by decide, by decide⟩ (fun c24 => ?_) (fun c24 => ?_)
          · refine z_iload_1 dX4_part_29 ?_
            refine z_iconst 3 dX4_part_30 rfl ?_
            refine z_imul dX4_part_31 ?_
            refine z_iload_2 dX4_part_32 ?_
            refine z_iadd dX4_part_33 ?_
            refine z_istore_3 dX4_part_34 (Nat.le_of_ble_eq_true rfl) rfl ?_
            refine z_iload_3 dX4_part_35 ?_
            refine z_aload_0 dX4_part_36 ?_
            refine z_getR (j := 0) dX4_part_37 zf_X4_9 rfl rfl ?_
            refine z_alenI dX4_part_40 rfl ?_
            refine z_top (b := 300) rfl ?_
            refine z_icmp_ge (tgt := 53) dX4_part_41 (by decide) (by omega) ⟨by decide, by decide⟩ (fun c41 => by exfalso; omega) (fun c41 => ?_)
            refine z_aload_0 dX4_part_44 ?_
            refine z_getR (j := 0) dX4_part_45 zf_X4_9 rfl rfl ?_
            refine z_iload_3 dX4_part_48 ?_
            refine z_iald dX4_part_49 rfl (by decide) (by omega) (by omega) ?_
            have w2 : zR (σ.2 17 ((a * 3) + k)) := hR.2 17 ((a * 3) + k)
            refine z_goto (tgt := 54) dX4_part_50 (by decide) ?_
            refine z_iret dX4_part_54 rfl ?_
            first | exact h1 (by omega) (by omega) (by omega) (by omega) (by omega) | exact h0 (by omega)
          · refine z_iconst (-1) dX4_part_27 rfl ?_
            refine z_iret dX4_part_28 rfl ?_
            first | exact h1 (by omega) (by omega) (by omega) (by omega) (by omega) | exact h0 (by omega)

set_option maxRecDepth 100000 in
theorem M_X1_start {G : zG} {σ : zSt} {Post : Option Value → zSt → Prop} (t : Nat) (ht : t < 6) (f : Int) (hf : zR f) (h : Post none (zsF (zsF (zsF (zsF σ (18 + t) 1 f) (18 + t) 2 0) (18 + t) 3 0) (18 + t) 4 0)) : zV G shC mX1_start 0 (zini 2 [.ref (zad G (18 + t)), .int (zI f)]) [] σ Post := by
  refine z_rg (fun hR => ?_)
  refine z_lv (lv' := [some (.ref (zad G (18 + t))), some (.int (zI f))]) rfl ?_
  refine z_aload_0 dX1_start_0 ?_
  refine z_iload_1 dX1_start_1 ?_
  refine z_putI (j := 1) dX1_start_2 zp_X1_15 (shC_lv ht) rfl (by omega) ?_
  refine z_aload_0 dX1_start_5 ?_
  refine z_iconst 0 dX1_start_6 rfl ?_
  refine z_putI (j := 2) dX1_start_7 zp_X1_19 (shC_lv ht) rfl ⟨by decide, by decide⟩ ?_
  refine z_aload_0 dX1_start_10 ?_
  refine z_iconst 0 dX1_start_11 rfl ?_
  refine z_putZ (j := 3) dX1_start_12 zp_X1_22 (shC_lv ht) rfl (by omega) ?_
  refine z_aload_0 dX1_start_15 ?_
  refine z_iconst 0 dX1_start_16 rfl ?_
  refine z_putZ (j := 4) dX1_start_17 zp_X1_26 (shC_lv ht) rfl (by omega) ?_
  refine z_vret dX1_start_20 rfl ?_
  exact h

set_option maxRecDepth 100000 in
theorem M_X6_topLevel {G : zG} {σ : zSt} {Post : Option Value → zSt → Prop} (hl0 : 0 ≤ σ.1 0 7) (hl : σ.1 0 7 ≤ 6) (h1 : ∀ t : Nat, t < 6 → σ.1 0 7 = (t : Int) + 1 → Post (some (.ref (zad G (18 + t)))) σ) (h0 : σ.1 0 7 = 0 → Post (some .null) σ) : zV G shC mX6_topLevel 0 (zini 1 [.ref (zad G 0)]) [] σ Post := by
  refine z_rg (fun hR => ?_)
  refine z_lv (lv' := [some (.ref (zad G 0))]) rfl ?_
  obtain ⟨t, ht, hte⟩ : ∃ t : Nat, t < 6 ∧ (0 < σ.1 0 7 → σ.1 0 7 = (t : Int) + 1) := ⟨(σ.1 0 7 - 1).toNat, by omega, fun _ => by omega⟩
  refine z_aload_0 dX6_topLevel_0 ?_
  refine z_getI (j := 7) dX6_topLevel_1 zf_X6_95 rfl rfl ?_
  have w1 : zR (σ.1 0 7) := hR.1 0 7
  refine z_if_le (tgt := 33) dX6_topLevel_4 (by decide) (by omega) (fun c4 => ?_) (fun c4 => ?_)
  · refine z_null dX6_topLevel_33 ?_
    refine z_aret dX6_topLevel_34 rfl (Or.inl rfl) ?_
    exact h0 (by omega)
  · refine z_aload_0 dX6_topLevel_7 ?_
    refine z_getI (j := 7) dX6_topLevel_8 zf_X6_95 rfl rfl ?_
    have w2 : zR (σ.1 0 7) := hR.1 0 7
    refine z_aload_0 dX6_topLevel_11 ?_
    refine z_getR (j := 3) dX6_topLevel_12 zf_X6_29 rfl rfl ?_
    refine z_alenR dX6_topLevel_15 rfl ?_
    refine z_top (b := 6) rfl ?_
    refine z_icmp_gt (tgt := 33) dX6_topLevel_16 (by decide) (by omega) ⟨by decide, by decide⟩ (fun c16 => by exfalso; omega) (fun c16 => ?_)
    refine z_aload_0 dX6_topLevel_19 ?_
    refine z_getR (j := 3) dX6_topLevel_20 zf_X6_29 rfl rfl ?_
    refine z_aload_0 dX6_topLevel_23 ?_
    refine z_getI (j := 7) dX6_topLevel_24 zf_X6_95 rfl rfl ?_
    have w3 : zR (σ.1 0 7) := hR.1 0 7
    refine z_iconst 1 dX6_topLevel_27 rfl ?_
    refine z_isub dX6_topLevel_28 ?_
    refine z_aald dX6_topLevel_29 rfl (by decide) (by omega) (shC_lr ht (by omega)) ?_
    refine z_goto (tgt := 34) dX6_topLevel_30 (by decide) ?_
    refine z_aret dX6_topLevel_34 rfl (Or.inr ⟨_, rfl⟩) ?_
    exact h1 t ht (by omega)

set_option maxRecDepth 100000 in
theorem M_X6_refusal {G : zG} {σ : zSt} {Post : Option Value → zSt → Prop} (hl0 : 0 ≤ σ.1 0 7) (h3 : σ.1 0 7 = 0 → Post (some (.int (zI (-3)))) σ) (h4 : 0 < σ.1 0 7 → 600 ≤ σ.1 6 1 → Post (some (.int (zI (-4)))) σ) (h0 : 0 < σ.1 0 7 → σ.1 6 1 < 600 → Post (some (.int (zI 0))) σ) : zV G shC mX6_refusalAtOnce 0 (zini 1 [.ref (zad G 0)]) [] σ Post := by
  refine z_rg (fun hR => ?_)
  refine z_lv (lv' := [some (.ref (zad G 0))]) rfl ?_
  refine z_aload_0 dX6_refusalAtOnce_0 ?_
  refine z_getI (j := 7) dX6_refusalAtOnce_1 zf_X6_95 rfl rfl ?_
  have w1 : zR (σ.1 0 7) := hR.1 0 7
  refine z_if_gt (tgt := 10) dX6_refusalAtOnce_4 (by decide) (by omega) (fun c4 => ?_) (fun c4 => ?_)
  · refine z_aload_0 dX6_refusalAtOnce_10 ?_
    refine z_getR (j := 5) dX6_refusalAtOnce_11 zf_X6_44 rfl rfl ?_
    refine z_callV mX5_isFull [] dX6_refusalAtOnce_14 zk_X5_isFull zl_X6_185 ⟨Nat.le_of_ble_eq_true rfl, Nat.le_of_ble_eq_true rfl⟩ rfl rfl (Nat.le_of_ble_eq_true rfl) (Nat.le_of_ble_eq_true rfl) ?_
    refine M_X5_isFull (fun i1 => ?_) (fun i1 => ?_)
    · refine z_b1 ?_
      refine z_if_eq (tgt := 25) dX6_refusalAtOnce_17 (by decide) ⟨by decide, by decide⟩ (fun c17 => by exfalso; omega) (fun c17 => ?_)
      refine z_bipush (-4) dX6_refusalAtOnce_20 (by decide +kernel) ?_
      refine z_goto (tgt := 26) dX6_refusalAtOnce_22 (by decide) ?_
      refine z_iret dX6_refusalAtOnce_26 rfl ?_
      exact h4 (by omega) (by omega)
    · refine z_b1 ?_
      refine z_if_eq (tgt := 25) dX6_refusalAtOnce_17 (by decide) ⟨by decide, by decide⟩ (fun c17 => ?_) (fun c17 => by exfalso; omega)
      refine z_iconst 0 dX6_refusalAtOnce_25 rfl ?_
      refine z_iret dX6_refusalAtOnce_26 rfl ?_
      exact h0 (by omega) (by omega)
  · refine z_bipush (-3) dX6_refusalAtOnce_7 (by decide +kernel) ?_
    refine z_iret dX6_refusalAtOnce_9 rfl ?_
    exact h3 (by omega)

set_option maxRecDepth 100000 in
theorem M_X6_signsLeft {G : zG} {σ : zSt} {Post : Option Value → zSt → Prop} (hl0 : 0 ≤ σ.1 0 7) (hl : σ.1 0 7 ≤ 6) (h0 : σ.1 0 7 = 0 → Post (some (.int (zI 0))) σ) (h1 : ∀ t : Nat, t < 6 → σ.1 0 7 = (t : Int) + 1 → σ.1 (18 + t) 4 = 0 → Post (some (.int (zI 0))) σ) (h2 : ∀ t : Nat, t < 6 → σ.1 0 7 = (t : Int) + 1 → σ.1 (18 + t) 4 ≠ 0 → σ.1 (18 + t) 6 < σ.1 (18 + t) 5 → Post (some (.int (zI (σ.1 (18 + t) 5 - σ.1 (18 + t) 6)))) σ) (h3 : ∀ t : Nat, t < 6 → σ.1 0 7 = (t : Int) + 1 → σ.1 (18 + t) 4 ≠ 0 → σ.1 (18 + t) 5 ≤ σ.1 (18 + t) 6 → Post (some (.int (zI 0))) σ) : zV G shC mX6_signsLeft 0 (zini 2 [.ref (zad G 0)]) [] σ Post := by
  refine z_rg (fun hR => ?_)
  refine z_lv (lv' := [some (.ref (zad G 0)), none]) rfl ?_
  refine z_aload_0 dX6_signsLeft_0 ?_
  refine z_callV mX6_topLevel [] dX6_signsLeft_1 zk_X6_topLevel zl_X6_102 ⟨Nat.le_of_ble_eq_true rfl, Nat.le_of_ble_eq_true rfl⟩ rfl rfl (Nat.le_of_ble_eq_true rfl) (Nat.le_of_ble_eq_true rfl) ?_
  refine M_X6_topLevel (by omega) (by omega) (fun t ht hte => ?_) (fun hte => ?_)
  · refine z_b1 ?_
    refine z_astore_1 dX6_signsLeft_4 (Nat.le_of_ble_eq_true rfl) rfl ?_
    refine z_aload_1 dX6_signsLeft_5 ?_
    refine z_ifnull dX6_signsLeft_6 ?_
    refine z_aload_1 dX6_signsLeft_9 ?_
    refine z_getI (j := 4) dX6_signsLeft_10 zf_X6_133 (shC_lv ht) rfl ?_
    have w1 : zR (σ.1 (18 + t) 4) := hR.1 (18 + t) 4
    refine z_if_eq (tgt := 23) dX6_signsLeft_13 (by decide) (by omega) (fun c13 => ?_) (fun c13 => ?_)
    · refine z_iconst 0 dX6_signsLeft_23 rfl ?_
      refine z_iret dX6_signsLeft_24 rfl ?_
      first | exact h0 hte | exact h3 t ht hte (by omega) (by omega) | exact h1 t ht hte (by omega)
    · refine z_aload_1 dX6_signsLeft_16 ?_
      refine z_callV mX1_left [] dX6_signsLeft_17 zk_X1_left zl_X6_117 ⟨Nat.le_of_ble_eq_true rfl, Nat.le_of_ble_eq_true rfl⟩ (shC_lv ht) rfl (Nat.le_of_ble_eq_true rfl) (Nat.le_of_ble_eq_true rfl) ?_
      refine M_X1_left t ht (fun i1 => ?_) (fun i1 => ?_)
      · refine z_b1 ?_
        refine z_goto (tgt := 24) dX6_signsLeft_20 (by decide) ?_
        refine z_iret dX6_signsLeft_24 rfl ?_
        exact h2 t ht hte (by omega) (by omega)
      · refine z_b1 ?_
        refine z_goto (tgt := 24) dX6_signsLeft_20 (by decide) ?_
        refine z_iret dX6_signsLeft_24 rfl ?_
        first | exact h0 hte | exact h3 t ht hte (by omega) (by omega) | exact h1 t ht hte (by omega)
  · refine z_b1 ?_
    refine z_astoreNN (i := 1) dX6_signsLeft_4 rfl (by simp) (Nat.le_of_ble_eq_true rfl) (zpvS (i := 0) rfl rfl) ?_
    refine z_lv (lv' := [some (.ref (zad G 0)), some (.null)]) rfl ?_
    refine z_aloadNN (i := 1) dX6_signsLeft_5 rfl rfl ?_
    refine z_ifnullN (tgt := 23) dX6_signsLeft_6 (by decide) ?_
    refine z_iconst 0 dX6_signsLeft_23 rfl ?_
    refine z_iret dX6_signsLeft_24 rfl ?_
    first | exact h0 hte | exact h3 t ht hte (by omega) (by omega) | exact h1 t ht hte (by omega)

set_option maxRecDepth 100000 in
theorem M_X6_drop {G : zG} {σ : zSt} {Post : Option Value → zSt → Prop} (t : Nat) (ht : t < 6) (h : Post (some (.int (zI (-6)))) (zsF σ (18 + t) 4 0)) : zV G shC mX6_dropUsedLine 0 (zini 1 [.ref (zad G (18 + t))]) [] σ Post := by
  refine z_rg (fun hR => ?_)
  refine z_lv (lv' := [some (.ref (zad G (18 + t)))]) rfl ?_
  refine z_aload_0 dX6_dropUsedLine_0 ?_
  refine z_iconst 0 dX6_dropUsedLine_1 rfl ?_
  refine z_putZ (j := 4) dX6_dropUsedLine_2 zp_X6_133 (shC_lv ht) rfl (by omega) ?_
  refine z_bipush (-6) dX6_dropUsedLine_5 (by decide +kernel) ?_
  refine z_iret dX6_dropUsedLine_7 rfl ?_
  exact h

set_option maxRecDepth 100000 in
theorem L_X6_tok {G : zG} {σ : zSt} {Post : Option Value → zSt → Prop} (hR : zRg σ) (hs : σ.1 6 1 ≤ 600) (hsz : σ.1 5 3 ≤ 150) (hv : ∀ i, 0 ≤ i → i < σ.1 6 1 → σ.2 16 (i * 6) = 1 → 0 ≤ σ.2 16 (i * 6 + 1) ∧ σ.2 16 (i * 6 + 1) < σ.1 5 3) (h : Post (some (.int (zI 1))) σ) : ∀ (m : Nat) (i : Int) (hi0 : 0 ≤ i) (hm : i + m = σ.1 6 1), zV G shC mX6_tokensHaveNames 2 [some (.ref (zad G 0)), some (.int (zI i))] [] σ Post := by
  intro m
  induction m with
  | zero =>
    intro i hi0 hm
    refine z_iload_1 dX6_tokensHaveNames_2 ?_
    refine z_aload_0 dX6_tokensHaveNames_3 ?_
    refine z_getR (j := 5) dX6_tokensHaveNames_4 zf_X6_44 rfl rfl ?_
    refine z_getI (j := 1) dX6_tokensHaveNames_7 zf_X6_164 rfl rfl ?_
    have w1 : zR (σ.1 6 1) := hR.1 6 1
    refine z_icmp_ge (tgt := 53) dX6_tokensHaveNames_10 (by decide) (by omega) (by omega) (fun c10 => ?_) (fun c10 => by exfalso; omega)
    refine z_iconst 1 dX6_tokensHaveNames_53 rfl ?_
    refine z_zret dX6_tokensHaveNames_54 rfl (Or.inr rfl) ?_
    exact h
  | succ m ih =>
    intro i hi0 hm
    have hv1 : σ.2 16 (i * 6 + 0) = 1 → 0 ≤ σ.2 16 (i * 6 + 1) ∧ σ.2 16 (i * 6 + 1) < σ.1 5 3 := by rw [Int.add_zero]; exact hv i hi0 (by omega)
    refine z_iload_1 dX6_tokensHaveNames_2 ?_
    refine z_aload_0 dX6_tokensHaveNames_3 ?_
    refine z_getR (j := 5) dX6_tokensHaveNames_4 zf_X6_44 rfl rfl ?_
    refine z_getI (j := 1) dX6_tokensHaveNames_7 zf_X6_164 rfl rfl ?_
    have w1 : zR (σ.1 6 1) := hR.1 6 1
    refine z_icmp_ge (tgt := 53) dX6_tokensHaveNames_10 (by decide) (by omega) (by omega) (fun c10 => by exfalso; omega) (fun c10 => ?_)
    refine z_aload_0 dX6_tokensHaveNames_13 ?_
    refine z_getR (j := 5) dX6_tokensHaveNames_14 zf_X6_44 rfl rfl ?_
    refine z_iload_1 dX6_tokensHaveNames_17 ?_
    refine z_iconst 0 dX6_tokensHaveNames_18 rfl ?_
    refine z_callV mX5_part [.int (zI i), .int (zI 0)] dX6_tokensHaveNames_19 zk_X5_part zl_X6_150 ⟨Nat.le_of_ble_eq_true rfl, Nat.le_of_ble_eq_true rfl⟩ rfl rfl (Nat.le_of_ble_eq_true rfl) (Nat.le_of_ble_eq_true rfl) ?_
    refine M_X5_part i 0 (by omega) (by omega) (by omega) (by omega) (by omega) ?_
    refine z_b1 ?_
    have w2 : zR (σ.2 16 ((i * 6) + 0)) := hR.2 16 ((i * 6) + 0)
    refine z_iconst 1 dX6_tokensHaveNames_22 rfl ?_
    refine z_icmp_ne (tgt := 47) dX6_tokensHaveNames_23 (by decide) (by omega) ⟨by decide, by decide⟩ (fun c23 => ?_) (fun c23 => ?_)
    · refine z_iinc_1 dX6_tokensHaveNames_47 (Nat.le_of_ble_eq_true rfl) rfl ?_
      refine z_goto (tgt := 2) dX6_tokensHaveNames_50 (by decide) ?_
      exact ih (i + 1) (by omega) (by omega)
    · refine z_aload_0 dX6_tokensHaveNames_26 ?_
      refine z_getR (j := 4) dX6_tokensHaveNames_27 zf_X6_37 rfl rfl ?_
      refine z_aload_0 dX6_tokensHaveNames_30 ?_
      refine z_getR (j := 5) dX6_tokensHaveNames_31 zf_X6_44 rfl rfl ?_
      refine z_iload_1 dX6_tokensHaveNames_34 ?_
      refine z_iconst 1 dX6_tokensHaveNames_35 rfl ?_
      refine z_callV mX5_part [.int (zI i), .int (zI 1)] dX6_tokensHaveNames_36 zk_X5_part zl_X6_150 ⟨Nat.le_of_ble_eq_true rfl, Nat.le_of_ble_eq_true rfl⟩ rfl rfl (Nat.le_of_ble_eq_true rfl) (Nat.le_of_ble_eq_true rfl) ?_
      refine M_X5_part i 1 (by omega) (by omega) (by omega) (by omega) (by omega) ?_
      refine z_b1 ?_
      have w3 : zR (σ.2 16 ((i * 6) + 1)) := hR.2 16 ((i * 6) + 1)
      refine z_callV mX3_has [.int (zI (σ.2 16 ((i * 6) + 1)))] dX6_tokensHaveNames_39 zk_X3_has zl_X6_184 ⟨Nat.le_of_ble_eq_true rfl, Nat.le_of_ble_eq_true rfl⟩ rfl rfl (Nat.le_of_ble_eq_true rfl) (Nat.le_of_ble_eq_true rfl) ?_
      refine M_X3_has (σ.2 16 ((i * 6) + 1)) (by omega) (by omega) (fun i1 i2 => ?_) (fun i1 => by exfalso; omega)
      refine z_b1 ?_
      refine z_if_ne (tgt := 47) dX6_tokensHaveNames_42 (by decide) ⟨by decide, by decide⟩ (fun c42 => ?_) (fun c42 => by exfalso; omega)
      refine z_iinc_1 dX6_tokensHaveNames_47 (Nat.le_of_ble_eq_true rfl) rfl ?_
      refine z_goto (tgt := 2) dX6_tokensHaveNames_50 (by decide) ?_
      exact ih (i + 1) (by omega) (by omega)

set_option maxRecDepth 100000 in
theorem M_X6_tok {G : zG} {σ : zSt} {Post : Option Value → zSt → Prop} (hs0 : 0 ≤ σ.1 6 1) (hs : σ.1 6 1 ≤ 600) (hsz : σ.1 5 3 ≤ 150) (hv : ∀ i, 0 ≤ i → i < σ.1 6 1 → σ.2 16 (i * 6) = 1 → 0 ≤ σ.2 16 (i * 6 + 1) ∧ σ.2 16 (i * 6 + 1) < σ.1 5 3) (h : Post (some (.int (zI 1))) σ) : zV G shC mX6_tokensHaveNames 0 (zini 2 [.ref (zad G 0)]) [] σ Post := by
  refine z_rg (fun hR => ?_)
  refine z_lv (lv' := [some (.ref (zad G 0)), none]) rfl ?_
  refine z_iconst 0 dX6_tokensHaveNames_0 rfl ?_
  refine z_istore_1 dX6_tokensHaveNames_1 (Nat.le_of_ble_eq_true rfl) rfl ?_
  exact L_X6_tok hR hs hsz hv h (σ.1 6 1).toNat 0 (by omega) (by omega)

set_option maxRecDepth 100000 in
theorem M_X6_check {G : zG} {σ : zSt} {Post : Option Value → zSt → Prop} (hsz0 : 0 ≤ σ.1 5 3) (hsz : σ.1 5 3 ≤ 150) (hln : ∀ q, 0 ≤ σ.2 14 q ∧ σ.2 14 q ≤ 40) (hd : ∀ a b, 0 ≤ b → b < a → a < σ.1 5 3 → ∃ w, 0 ≤ w ∧ w ≤ 40 ∧ zns (σ.2 13) (σ.2 14) (σ.1 5 3) a w ≠ zns (σ.2 13) (σ.2 14) (σ.1 5 3) b w) (hs0 : 0 ≤ σ.1 6 1) (hs : σ.1 6 1 ≤ 600) (hv : ∀ i, 0 ≤ i → i < σ.1 6 1 → σ.2 16 (i * 6) = 1 → 0 ≤ σ.2 16 (i * 6 + 1) ∧ σ.2 16 (i * 6 + 1) < σ.1 5 3) (h : Post (some (.int (zI 1))) σ) : zV G shC mX6_check 0 (zini 1 [.ref (zad G 0)]) [] σ Post := by
  refine z_rg (fun hR => ?_)
  refine z_lv (lv' := [some (.ref (zad G 0))]) rfl ?_
  refine z_aload_0 dX6_check_0 ?_
  refine z_getR (j := 4) dX6_check_1 zf_X6_37 rfl rfl ?_
  refine z_callV mX3_allDiffer [] dX6_check_4 zk_X3_allDiffer zl_X6_178 ⟨Nat.le_of_ble_eq_true rfl, Nat.le_of_ble_eq_true rfl⟩ rfl rfl (Nat.le_of_ble_eq_true rfl) (Nat.le_of_ble_eq_true rfl) ?_
  refine M_X3_allDiffer hsz0 hsz hln hd ?_
  refine z_b1 ?_
  refine z_if_eq (tgt := 21) dX6_check_7 (by decide) ⟨by decide, by decide⟩ (fun c7 => by exfalso; omega) (fun c7 => ?_)
  refine z_aload_0 dX6_check_10 ?_
  refine z_callV mX6_tokensHaveNames [] dX6_check_11 zk_X6_tokensHaveNames zl_X6_181 ⟨Nat.le_of_ble_eq_true rfl, Nat.le_of_ble_eq_true rfl⟩ rfl rfl (Nat.le_of_ble_eq_true rfl) (Nat.le_of_ble_eq_true rfl) ?_
  refine M_X6_tok hs0 hs hsz hv ?_
  refine z_b1 ?_
  refine z_if_eq (tgt := 21) dX6_check_14 (by decide) ⟨by decide, by decide⟩ (fun c14 => by exfalso; omega) (fun c14 => ?_)
  refine z_iconst 1 dX6_check_17 rfl ?_
  refine z_goto (tgt := 22) dX6_check_18 (by decide) ?_
  refine z_iret dX6_check_22 rfl ?_
  exact h
end
section
set_option maxRecDepth 100000 in
theorem M_X6_category {G : zG} {σ : zSt} {Post : Option Value → zSt → Prop} (s c g : Int) (hs : zR s) (hc : zR c) (hg : zR g) (hg0 : 0 ≤ σ.1 1 2) (hg1 : σ.1 1 2 ≤ 20) (h2 : ¬ (0 ≤ s ∧ s < 256 ∧ 0 ≤ c ∧ c < 16) → Post (some (.int (zI (-2)))) σ) (h1 : 0 ≤ s → s < 256 → 0 ≤ c → c < 16 → g ≠ 0 → Post (some (.int (zI 1))) (zsS (zsA σ 8 s c) 9 s (σ.1 1 2) c)) (h0 : 0 ≤ s → s < 256 → 0 ≤ c → c < 16 → g = 0 → Post (some (.int (zI 1))) (zsA σ 8 s c)) : zV G shC mX6_category 0 (zini 4 [.ref (zad G 0), .int (zI s), .int (zI c), .int (zI g)]) [] σ Post := by
  refine z_rg (fun hR => ?_)
  refine z_lv (lv' := [some (.ref (zad G 0)), some (.int (zI s)), some (.int (zI c)), some (.int (zI g))]) rfl ?_
  refine z_iload_1 dX6_category_0 ?_
  refine z_callS mX6_isSign [.int (zI s)] dX6_category_1 zk_X6_isSign zl_X6_59 ⟨Nat.le_of_ble_eq_true rfl, Nat.le_of_ble_eq_true rfl⟩ (Nat.le_of_ble_eq_true rfl) (Nat.le_of_ble_eq_true rfl) ?_
  refine M_X6_isSign s (by omega) (fun i1 i2 => ?_) (fun i1 => ?_)
  · refine z_b1 ?_
    refine z_if_eq (tgt := 17) dX6_category_4 (by decide) ⟨by decide, by decide⟩ (fun c4 => by exfalso; omega) (fun c4 => ?_)
    refine z_iload_2 dX6_category_7 ?_
    refine z_if_lt (tgt := 17) dX6_category_8 (by decide) (by omega) (fun c8 => ?_) (fun c8 => ?_)
    · refine z_bipush (-2) dX6_category_17 (by decide +kernel) ?_
      refine z_iret dX6_category_19 rfl ?_
      exact h2 (by omega)
    · refine z_iload_2 dX6_category_11 ?_
      refine z_bipush 16 dX6_category_12 (by decide +kernel) ?_
      refine z_icmp_lt (tgt := 20) dX6_category_14 (by decide) (by omega) ⟨by decide, by decide⟩ (fun c14 => ?_) (fun c14 => ?_)
      · refine z_iload_3 dX6_category_20 ?_
        refine z_if_eq (tgt := 36) dX6_category_21 (by decide) (by omega) (fun c21 => ?_) (fun c21 => ?_)
        · refine z_aload_0 dX6_category_36 ?_
          refine z_getR (j := 0) dX6_category_37 zf_X6_10 rfl rfl ?_
          refine z_iload_1 dX6_category_40 ?_
          refine z_iload_2 dX6_category_41 ?_
          refine z_callV mX0_setHere [.int (zI s), .int (zI c)] dX6_category_42 zk_X0_setHere zl_X6_67 ⟨Nat.le_of_ble_eq_true rfl, Nat.le_of_ble_eq_true rfl⟩ rfl rfl (Nat.le_of_ble_eq_true rfl) (Nat.le_of_ble_eq_true rfl) ?_
          refine M_X0_setHere s c (by omega) (by omega) (by omega) ?_
          refine z_b0 ?_
          refine z_iconst 1 dX6_category_45 rfl ?_
          refine z_iret dX6_category_46 rfl ?_
          first | exact h1 (by omega) (by omega) (by omega) (by omega) (by omega) | exact h0 (by omega) (by omega) (by omega) (by omega) (by omega)
        · refine z_aload_0 dX6_category_24 ?_
          refine z_getR (j := 0) dX6_category_25 zf_X6_10 rfl rfl ?_
          refine z_iload_1 dX6_category_28 ?_
          refine z_iload_2 dX6_category_29 ?_
          refine z_callV mX0_setEverywhere [.int (zI s), .int (zI c)] dX6_category_30 zk_X0_setEverywhere zl_X6_63 ⟨Nat.le_of_ble_eq_true rfl, Nat.le_of_ble_eq_true rfl⟩ rfl rfl (Nat.le_of_ble_eq_true rfl) (Nat.le_of_ble_eq_true rfl) ?_
          refine M_X0_setEverywhere s c (by omega) (by omega) (by omega) (by omega) (by omega) ?_
          refine z_b0 ?_
          refine z_goto (tgt := 45) dX6_category_33 (by decide) ?_
          refine z_iconst 1 dX6_category_45 rfl ?_
          refine z_iret dX6_category_46 rfl ?_
          first | exact h1 (by omega) (by omega) (by omega) (by omega) (by omega) | exact h0 (by omega) (by omega) (by omega) (by omega) (by omega)
      · refine z_bipush (-2) dX6_category_17 (by decide +kernel) ?_
        refine z_iret dX6_category_19 rfl ?_
        exact h2 (by omega)
  · refine z_b1 ?_
    refine z_if_eq (tgt := 17) dX6_category_4 (by decide) ⟨by decide, by decide⟩ (fun c4 => ?_) (fun c4 => by exfalso; omega)
    refine z_bipush (-2) dX6_category_17 (by decide +kernel) ?_
    refine z_iret dX6_category_19 rfl ?_
    exact h2 (by omega)

set_option maxRecDepth 100000 in
theorem M_X6_group {G : zG} {σ : zSt} {Post : Option Value → zSt → Prop} (b : Int) (hb : zR b) (hg0 : 0 ≤ σ.1 1 2) (hg1 : σ.1 1 2 ≤ 20) (h1 : b ≠ 0 → σ.1 1 2 < 20 → Post (some (.int (zI (σ.1 1 2 + 1)))) (zsF (zsC σ 8 0 9 (σ.1 1 2 * 256) 256) 1 2 (σ.1 1 2 + 1))) (h4 : b ≠ 0 → σ.1 1 2 = 20 → Post (some (.int (zI (-4)))) σ) (h2 : b = 0 → 0 < σ.1 1 2 → Post (some (.int (zI (σ.1 1 2 - 1)))) (zsC (zsF σ 1 2 (σ.1 1 2 - 1)) 9 ((σ.1 1 2 - 1) * 256) 8 0 256)) (h3 : b = 0 → σ.1 1 2 = 0 → Post (some (.int (zI (-3)))) σ) : zV G shC mX6_group 0 (zini 2 [.ref (zad G 0), .int (zI b)]) [] σ Post := by
  refine z_rg (fun hR => ?_)
  refine z_lv (lv' := [some (.ref (zad G 0)), some (.int (zI b))]) rfl ?_
  refine z_iload_1 dX6_group_0 ?_
  refine z_if_eq (tgt := 27) dX6_group_1 (by decide) (by omega) (fun c1 => ?_) (fun c1 => ?_)
  · refine z_aload_0 dX6_group_27 ?_
    refine z_getR (j := 0) dX6_group_28 zf_X6_10 rfl rfl ?_
    refine z_callV mX0_endGroup [] dX6_group_31 zk_X0_endGroup zl_X6_77 ⟨Nat.le_of_ble_eq_true rfl, Nat.le_of_ble_eq_true rfl⟩ rfl rfl (Nat.le_of_ble_eq_true rfl) (Nat.le_of_ble_eq_true rfl) ?_
    refine M_X0_endGroup hg0 hg1 (fun i1 => ?_) (fun i1 => ?_)
    · refine z_b1 ?_
      refine z_if_eq (tgt := 47) dX6_group_34 (by decide) ⟨by decide, by decide⟩ (fun c34 => by exfalso; omega) (fun c34 => ?_)
      refine z_aload_0 dX6_group_37 ?_
      refine z_getR (j := 0) dX6_group_38 zf_X6_10 rfl rfl ?_
      refine z_getI (j := 2) dX6_group_41 zf_X6_74 rfl rfl ?_
      refine z_top (b := (σ.1 1 2 - 1)) (zsC_F.trans zsF_eq) ?_
      refine z_goto (tgt := 49) dX6_group_44 (by decide) ?_
      refine z_iret dX6_group_49 rfl ?_
      first | exact h1 (by omega) (by omega) | exact h2 (by omega) (by omega)
    · refine z_b1 ?_
      refine z_if_eq (tgt := 47) dX6_group_34 (by decide) ⟨by decide, by decide⟩ (fun c34 => ?_) (fun c34 => by exfalso; omega)
      refine z_bipush (-3) dX6_group_47 (by decide +kernel) ?_
      refine z_iret dX6_group_49 rfl ?_
      exact h3 (by omega) (by omega)
  · refine z_aload_0 dX6_group_4 ?_
    refine z_getR (j := 0) dX6_group_5 zf_X6_10 rfl rfl ?_
    refine z_callV mX0_beginGroup [] dX6_group_8 zk_X0_beginGroup zl_X6_70 ⟨Nat.le_of_ble_eq_true rfl, Nat.le_of_ble_eq_true rfl⟩ rfl rfl (Nat.le_of_ble_eq_true rfl) (Nat.le_of_ble_eq_true rfl) ?_
    refine M_X0_beginGroup hg0 hg1 (fun i1 => ?_) (fun i1 => ?_)
    · refine z_b1 ?_
      refine z_if_eq (tgt := 24) dX6_group_11 (by decide) ⟨by decide, by decide⟩ (fun c11 => by exfalso; omega) (fun c11 => ?_)
      refine z_aload_0 dX6_group_14 ?_
      refine z_getR (j := 0) dX6_group_15 zf_X6_10 rfl rfl ?_
      refine z_getI (j := 2) dX6_group_18 zf_X6_74 rfl rfl ?_
      refine z_top (b := (σ.1 1 2 + 1)) zsF_eq ?_
      refine z_goto (tgt := 26) dX6_group_21 (by decide) ?_
      refine z_iret dX6_group_26 rfl ?_
      first | exact h1 (by omega) (by omega) | exact h2 (by omega) (by omega)
    · refine z_b1 ?_
      refine z_if_eq (tgt := 24) dX6_group_11 (by decide) ⟨by decide, by decide⟩ (fun c11 => ?_) (fun c11 => by exfalso; omega)
      refine z_bipush (-4) dX6_group_24 (by decide +kernel) ?_
      refine z_iret dX6_group_26 rfl ?_
      exact h4 (by omega) (by omega)

set_option maxRecDepth 100000 in
theorem M_X6_endSign {G : zG} {σ : zSt} {Post : Option Value → zSt → Prop} (c : Int) (hc : zR c) (h1 : -1 ≤ c → c < 256 → Post (some (.int (zI 1))) (zsF σ 0 8 c)) (h0 : c < -1 ∨ 256 ≤ c → Post (some (.int (zI (-2)))) σ) : zV G shC mX6_endSign 0 (zini 2 [.ref (zad G 0), .int (zI c)]) [] σ Post := by
  refine z_rg (fun hR => ?_)
  refine z_lv (lv' := [some (.ref (zad G 0)), some (.int (zI c))]) rfl ?_
  refine z_iload_1 dX6_endSign_0 ?_
  refine z_iconst (-1) dX6_endSign_1 rfl ?_
  refine z_icmp_eq (tgt := 15) dX6_endSign_2 (by decide) (by omega) ⟨by decide, by decide⟩ (fun c2 => ?_) (fun c2 => ?_)
  · refine z_aload_0 dX6_endSign_15 ?_
    refine z_iload_1 dX6_endSign_16 ?_
    refine z_putI (j := 8) dX6_endSign_17 zp_X6_55 rfl rfl (by omega) ?_
    refine z_iconst 1 dX6_endSign_20 rfl ?_
    refine z_iret dX6_endSign_21 rfl ?_
    exact h1 (by omega) (by omega)
  · refine z_iload_1 dX6_endSign_5 ?_
    refine z_callS mX6_isSign [.int (zI c)] dX6_endSign_6 zk_X6_isSign zl_X6_59 ⟨Nat.le_of_ble_eq_true rfl, Nat.le_of_ble_eq_true rfl⟩ (Nat.le_of_ble_eq_true rfl) (Nat.le_of_ble_eq_true rfl) ?_
    refine M_X6_isSign c (by omega) (fun i1 i2 => ?_) (fun i1 => ?_)
    · refine z_b1 ?_
      refine z_if_ne (tgt := 15) dX6_endSign_9 (by decide) ⟨by decide, by decide⟩ (fun c9 => ?_) (fun c9 => by exfalso; omega)
      refine z_aload_0 dX6_endSign_15 ?_
      refine z_iload_1 dX6_endSign_16 ?_
      refine z_putI (j := 8) dX6_endSign_17 zp_X6_55 rfl rfl (by omega) ?_
      refine z_iconst 1 dX6_endSign_20 rfl ?_
      refine z_iret dX6_endSign_21 rfl ?_
      exact h1 (by omega) (by omega)
    · refine z_b1 ?_
      refine z_if_ne (tgt := 15) dX6_endSign_9 (by decide) ⟨by decide, by decide⟩ (fun c9 => by exfalso; omega) (fun c9 => ?_)
      refine z_bipush (-2) dX6_endSign_12 (by decide +kernel) ?_
      refine z_iret dX6_endSign_14 rfl ?_
      exact h0 (by omega)

set_option maxRecDepth 100000 in
theorem M_X6_meaning {G : zG} {σ : zSt} {Post : Option Value → zSt → Prop} (s b : Int) (hs : zR s) (hb : b = 0 ∨ b = 1) (h1 : 0 ≤ s → s < 256 → Post (some (.int (zI 1))) (zsA σ 2 s b)) (h0 : s < 0 ∨ 256 ≤ s → Post (some (.int (zI (-2)))) σ) : zV G shC mX6_meaning 0 (zini 3 [.ref (zad G 0), .int (zI s), .int (zI b)]) [] σ Post := by
  refine z_rg (fun hR => ?_)
  refine z_lv (lv' := [some (.ref (zad G 0)), some (.int (zI s)), some (.int (zI b))]) rfl ?_
  refine z_iload_1 dX6_meaning_0 ?_
  refine z_callS mX6_isSign [.int (zI s)] dX6_meaning_1 zk_X6_isSign zl_X6_59 ⟨Nat.le_of_ble_eq_true rfl, Nat.le_of_ble_eq_true rfl⟩ (Nat.le_of_ble_eq_true rfl) (Nat.le_of_ble_eq_true rfl) ?_
  refine M_X6_isSign s (by omega) (fun i1 i2 => ?_) (fun i1 => ?_)
  · refine z_b1 ?_
    refine z_if_ne (tgt := 10) dX6_meaning_4 (by decide) ⟨by decide, by decide⟩ (fun c4 => ?_) (fun c4 => by exfalso; omega)
    refine z_aload_0 dX6_meaning_10 ?_
    refine z_getR (j := 1) dX6_meaning_11 zf_X6_16 rfl rfl ?_
    refine z_iload_1 dX6_meaning_14 ?_
    refine z_iload_2 dX6_meaning_15 ?_
    refine z_zast dX6_meaning_16 rfl (by decide) (by omega) (by omega) (by omega) ?_
    refine z_iconst 1 dX6_meaning_17 rfl ?_
    refine z_iret dX6_meaning_18 rfl ?_
    exact h1 (by omega) (by omega)
  · refine z_b1 ?_
    refine z_if_ne (tgt := 10) dX6_meaning_4 (by decide) ⟨by decide, by decide⟩ (fun c4 => by exfalso; omega) (fun c4 => ?_)
    refine z_bipush (-2) dX6_meaning_7 (by decide +kernel) ?_
    refine z_iret dX6_meaning_9 rfl ?_
    exact h0 (by omega)

set_option maxRecDepth 100000 in
theorem M_X6_file {G : zG} {σ : zSt} {Post : Option Value → zSt → Prop} (h00 : 0 ≤ σ.1 3 3) (h1 : σ.1 3 3 < 8 → Post (some (.int (zI (σ.1 3 3)))) (zsF σ 3 3 (σ.1 3 3 + 1))) (h0 : 8 ≤ σ.1 3 3 → Post (some (.int (zI (-4)))) σ) : zV G shC mX6_file 0 (zini 1 [.ref (zad G 0)]) [] σ Post := by
  refine z_rg (fun hR => ?_)
  refine z_lv (lv' := [some (.ref (zad G 0))]) rfl ?_
  refine z_aload_0 dX6_file_0 ?_
  refine z_getR (j := 2) dX6_file_1 zf_X6_23 rfl rfl ?_
  refine z_callV mX2_newFile [] dX6_file_4 zk_X2_newFile zl_X6_80 ⟨Nat.le_of_ble_eq_true rfl, Nat.le_of_ble_eq_true rfl⟩ rfl rfl (Nat.le_of_ble_eq_true rfl) (Nat.le_of_ble_eq_true rfl) ?_
  refine M_X2_newFile h00 (fun i1 => ?_) (fun i1 => ?_)
  · refine z_b1 ?_
    refine z_iret dX6_file_7 rfl ?_
    first | exact h1 i1 | exact h0 i1
  · refine z_b1 ?_
    refine z_iret dX6_file_7 rfl ?_
    first | exact h1 i1 | exact h0 i1

set_option maxRecDepth 100000 in
theorem M_X6_line {G : zG} {σ : zSt} {Post : Option Value → zSt → Prop} (f : Int) (hf : zR f) (h8 : σ.1 3 3 ≤ 8) (hc0 : ∀ q, 0 ≤ σ.2 10 q) (hm : f < 0 ∨ σ.1 3 3 ≤ f → Post (some (.int (zI (-1)))) σ) (h1 : 0 ≤ f → f < σ.1 3 3 → σ.2 10 f < 30 → Post (some (.int (zI (σ.2 10 f + 1)))) (zsA σ 10 f (σ.2 10 f + 1))) (h0 : 0 ≤ f → f < σ.1 3 3 → 30 ≤ σ.2 10 f → Post (some (.int (zI (-4)))) σ) : zV G shC mX6_line 0 (zini 2 [.ref (zad G 0), .int (zI f)]) [] σ Post := by
  refine z_rg (fun hR => ?_)
  refine z_lv (lv' := [some (.ref (zad G 0)), some (.int (zI f))]) rfl ?_
  refine z_aload_0 dX6_line_0 ?_
  refine z_getR (j := 2) dX6_line_1 zf_X6_23 rfl rfl ?_
  refine z_iload_1 dX6_line_4 ?_
  refine z_callV mX2_hasFile [.int (zI f)] dX6_line_5 zk_X2_hasFile zl_X6_84 ⟨Nat.le_of_ble_eq_true rfl, Nat.le_of_ble_eq_true rfl⟩ rfl rfl (Nat.le_of_ble_eq_true rfl) (Nat.le_of_ble_eq_true rfl) ?_
  refine M_X2_hasFile f (by omega) (by omega) (fun i1 i2 => ?_) (fun i1 => ?_)
  · refine z_b1 ?_
    refine z_if_eq (tgt := 22) dX6_line_8 (by decide) ⟨by decide, by decide⟩ (fun c8 => by exfalso; omega) (fun c8 => ?_)
    refine z_aload_0 dX6_line_11 ?_
    refine z_getR (j := 2) dX6_line_12 zf_X6_23 rfl rfl ?_
    refine z_iload_1 dX6_line_15 ?_
    refine z_callV mX2_newLine [.int (zI f)] dX6_line_16 zk_X2_newLine zl_X6_87 ⟨Nat.le_of_ble_eq_true rfl, Nat.le_of_ble_eq_true rfl⟩ rfl rfl (Nat.le_of_ble_eq_true rfl) (Nat.le_of_ble_eq_true rfl) ?_
    refine M_X2_newLine f (by omega) (by omega) (by omega) (hc0 _) (fun i3 => ?_) (fun i3 => ?_)
    · refine z_b1 ?_
      refine z_goto (tgt := 23) dX6_line_19 (by decide) ?_
      refine z_iret dX6_line_23 rfl ?_
      exact h1 (by omega) (by omega) (by omega)
    · refine z_b1 ?_
      refine z_goto (tgt := 23) dX6_line_19 (by decide) ?_
      refine z_iret dX6_line_23 rfl ?_
      exact h0 (by omega) (by omega) (by omega)
  · refine z_b1 ?_
    refine z_if_eq (tgt := 22) dX6_line_8 (by decide) ⟨by decide, by decide⟩ (fun c8 => ?_) (fun c8 => by exfalso; omega)
    refine z_iconst (-1) dX6_line_22 rfl ?_
    refine z_iret dX6_line_23 rfl ?_
    exact hm (by omega)

set_option maxRecDepth 100000 in
theorem M_X6_add {G : zG} {σ : zSt} {Post : Option Value → zSt → Prop} (f n : Int) (x : Int64) (hf : zR f) (hn : zR n) (h8 : σ.1 3 3 ≤ 8) (hc : ∀ q, 0 ≤ σ.2 10 q ∧ σ.2 10 q ≤ 30) (hlr : ∀ r, 0 ≤ σ.2 11 r ∧ σ.2 11 r ≤ 120) (hm : f < 0 ∨ σ.1 3 3 ≤ f → Post (some (.int (zI (-1)))) σ) (h2 : 0 ≤ f → f < σ.1 3 3 → n < 1 ∨ 8 < n → Post (some (.int (zI (-2)))) σ) (h3 : 0 ≤ f → f < σ.1 3 3 → 1 ≤ n → n ≤ 8 → σ.2 10 f = 0 → Post (some (.int (zI (-3)))) σ) (h4 : 0 ≤ f → f < σ.1 3 3 → 1 ≤ n → n ≤ 8 → 0 < σ.2 10 f → 120 < σ.2 11 (f * 30 + σ.2 10 f - 1) + n → Post (some (.int (zI (-4)))) σ) (h1 : 0 ≤ f → f < σ.1 3 3 → 1 ≤ n → n ≤ 8 → 0 < σ.2 10 f → σ.2 11 (f * 30 + σ.2 10 f - 1) + n ≤ 120 → Post (some (.int (zI (σ.2 11 (f * 30 + σ.2 10 f - 1) + n)))) (zsA (zsB σ 12 ((f * 30 + σ.2 10 f - 1) * 120 + σ.2 11 (f * 30 + σ.2 10 f - 1)) n (zbc x n)) 11 (f * 30 + σ.2 10 f - 1) (σ.2 11 (f * 30 + σ.2 10 f - 1) + n))) : zV G shC mX6_add 0 (zini 5 [.ref (zad G 0), .int (zI f), .long x, .int (zI n)]) [] σ Post := by
  refine z_rg (fun hR => ?_)
  refine z_lv (lv' := [some (.ref (zad G 0)), some (.int (zI f)), some (.long x), none, some (.int (zI n))]) rfl ?_
  refine z_aload_0 dX6_add_0 ?_
  refine z_getR (j := 2) dX6_add_1 zf_X6_23 rfl rfl ?_
  refine z_iload_1 dX6_add_4 ?_
  refine z_callV mX2_hasFile [.int (zI f)] dX6_add_5 zk_X2_hasFile zl_X6_84 ⟨Nat.le_of_ble_eq_true rfl, Nat.le_of_ble_eq_true rfl⟩ rfl rfl (Nat.le_of_ble_eq_true rfl) (Nat.le_of_ble_eq_true rfl) ?_
  refine M_X2_hasFile f (by omega) (by omega) (fun i1 i2 => ?_) (fun i1 => ?_)
  · refine z_b1 ?_
    refine z_if_ne (tgt := 13) dX6_add_8 (by decide) ⟨by decide, by decide⟩ (fun c8 => ?_) (fun c8 => by exfalso; omega)
    refine z_iload_4 dX6_add_13 ?_
    refine z_iconst 1 dX6_add_15 rfl ?_
    refine z_icmp_lt (tgt := 26) dX6_add_16 (by decide) (by omega) ⟨by decide, by decide⟩ (fun c16 => ?_) (fun c16 => ?_)
    · refine z_bipush (-2) dX6_add_26 (by decide +kernel) ?_
      refine z_iret dX6_add_28 rfl ?_
      exact h2 (by omega) (by omega) (by omega)
    · refine z_iload_4 dX6_add_19 ?_
      refine z_bipush 8 dX6_add_21 (by decide +kernel) ?_
      refine z_icmp_le (tgt := 29) dX6_add_23 (by decide) (by omega) ⟨by decide, by decide⟩ (fun c23 => ?_) (fun c23 => ?_)
      · refine z_aload_0 dX6_add_29 ?_
        refine z_getR (j := 2) dX6_add_30 zf_X6_23 rfl rfl ?_
        refine z_iload_1 dX6_add_33 ?_
        refine z_lloadN (i := 2) dX6_add_34 rfl rfl ?_
        refine z_iload_4 dX6_add_35 ?_
        refine z_callV mX2_append [.int (zI f), .long x, .int (zI n)] dX6_add_37 zk_X2_append zl_X6_91 ⟨Nat.le_of_ble_eq_true rfl, Nat.le_of_ble_eq_true rfl⟩ rfl rfl (Nat.le_of_ble_eq_true rfl) (Nat.le_of_ble_eq_true rfl) ?_
        refine M_X2_append f n x (by omega) (by omega) (by omega) (by omega) (by omega) (hc f).1 (hc f).2 hlr (fun i3 => ?_) (fun i3 i4 => ?_) (fun i3 i4 => ?_)
        · refine z_b1 ?_
          refine z_iret dX6_add_40 rfl ?_
          exact h3 (by omega) (by omega) (by omega) (by omega) i3
        · refine z_b1 ?_
          refine z_iret dX6_add_40 rfl ?_
          exact h4 (by omega) (by omega) (by omega) (by omega) i3 i4
        · refine z_b1 ?_
          refine z_iret dX6_add_40 rfl ?_
          exact h1 (by omega) (by omega) (by omega) (by omega) i3 i4
      · refine z_bipush (-2) dX6_add_26 (by decide +kernel) ?_
        refine z_iret dX6_add_28 rfl ?_
        exact h2 (by omega) (by omega) (by omega)
  · refine z_b1 ?_
    refine z_if_ne (tgt := 13) dX6_add_8 (by decide) ⟨by decide, by decide⟩ (fun c8 => by exfalso; omega) (fun c8 => ?_)
    refine z_iconst (-1) dX6_add_11 rfl ?_
    refine z_iret dX6_add_12 rfl ?_
    exact hm (by omega)

set_option maxRecDepth 100000 in
theorem M_X6_open {G : zG} {σ : zSt} {Post : Option Value → zSt → Prop} (f : Int) (hf : zR f) (h8 : σ.1 3 3 ≤ 8) (hl0 : 0 ≤ σ.1 0 7) (hl : σ.1 0 7 ≤ 6) (hm : f < 0 ∨ σ.1 3 3 ≤ f → Post (some (.int (zI (-1)))) σ) (h4 : 0 ≤ f → f < σ.1 3 3 → σ.1 0 7 = 6 → Post (some (.int (zI (-4)))) σ) (h1 : 0 ≤ f → f < σ.1 3 3 → ∀ t : Nat, t < 6 → σ.1 0 7 = t → Post (some (.int (zI (σ.1 0 7 + 1)))) (zsF (zsF (zsF (zsF (zsF σ (18 + t) 1 f) (18 + t) 2 0) (18 + t) 3 0) (18 + t) 4 0) 0 7 (σ.1 0 7 + 1))) : zV G shC mX6_open 0 (zini 2 [.ref (zad G 0), .int (zI f)]) [] σ Post := by
  refine z_rg (fun hR => ?_)
  refine z_lv (lv' := [some (.ref (zad G 0)), some (.int (zI f))]) rfl ?_
  obtain ⟨t, ht, hte⟩ : ∃ t : Nat, t < 6 ∧ (σ.1 0 7 < 6 → σ.1 0 7 = (t : Int)) := ⟨(if σ.1 0 7 < 6 then σ.1 0 7 else 0).toNat, by split <;> omega, fun h => by rw [if_pos h]; omega⟩
  refine z_aload_0 dX6_open_0 ?_
  refine z_getR (j := 2) dX6_open_1 zf_X6_23 rfl rfl ?_
  refine z_iload_1 dX6_open_4 ?_
  refine z_callV mX2_hasFile [.int (zI f)] dX6_open_5 zk_X2_hasFile zl_X6_84 ⟨Nat.le_of_ble_eq_true rfl, Nat.le_of_ble_eq_true rfl⟩ rfl rfl (Nat.le_of_ble_eq_true rfl) (Nat.le_of_ble_eq_true rfl) ?_
  refine M_X2_hasFile f (by omega) (by omega) (fun i1 i2 => ?_) (fun i1 => ?_)
  · refine z_b1 ?_
    refine z_if_ne (tgt := 13) dX6_open_8 (by decide) ⟨by decide, by decide⟩ (fun c8 => ?_) (fun c8 => by exfalso; omega)
    refine z_aload_0 dX6_open_13 ?_
    refine z_getI (j := 7) dX6_open_14 zf_X6_95 rfl rfl ?_
    have w1 : zR (σ.1 0 7) := hR.1 0 7
    refine z_if_lt (tgt := 32) dX6_open_17 (by decide) (by omega) (fun c17 => by exfalso; omega) (fun c17 => ?_)
    refine z_aload_0 dX6_open_20 ?_
    refine z_getI (j := 7) dX6_open_21 zf_X6_95 rfl rfl ?_
    have w2 : zR (σ.1 0 7) := hR.1 0 7
    refine z_aload_0 dX6_open_24 ?_
    refine z_getR (j := 3) dX6_open_25 zf_X6_29 rfl rfl ?_
    refine z_alenR dX6_open_28 rfl ?_
    refine z_top (b := 6) rfl ?_
    refine z_icmp_lt (tgt := 35) dX6_open_29 (by decide) (by omega) ⟨by decide, by decide⟩ (fun c29 => ?_) (fun c29 => ?_)
    · refine z_aload_0 dX6_open_35 ?_
      refine z_getR (j := 3) dX6_open_36 zf_X6_29 rfl rfl ?_
      refine z_aload_0 dX6_open_39 ?_
      refine z_getI (j := 7) dX6_open_40 zf_X6_95 rfl rfl ?_
      have w3 : zR (σ.1 0 7) := hR.1 0 7
      refine z_aald dX6_open_43 rfl (by decide) (by omega) (shC_lr ht (by omega)) ?_
      refine z_iload_1 dX6_open_44 ?_
      refine z_callV mX1_start [.int (zI f)] dX6_open_45 zk_X1_start zl_X6_98 ⟨Nat.le_of_ble_eq_true rfl, Nat.le_of_ble_eq_true rfl⟩ (shC_lv ht) rfl (Nat.le_of_ble_eq_true rfl) (Nat.le_of_ble_eq_true rfl) ?_
      refine M_X1_start t ht f (by omega) ?_
      refine z_b0 ?_
      refine z_aload_0 dX6_open_48 ?_
      refine z_dup dX6_open_49 rfl ?_
      refine z_getI (j := 7) dX6_open_50 zf_X6_95 rfl rfl ?_
      refine z_top (b := σ.1 0 7) ((zsF_ne (by omega)).trans ((zsF_ne (by omega)).trans ((zsF_ne (by omega)).trans (zsF_ne (by omega))))) ?_
      have w4 : zR (σ.1 0 7) := hR.1 0 7
      refine z_iconst 1 dX6_open_53 rfl ?_
      refine z_iadd dX6_open_54 ?_
      refine z_putI (j := 7) dX6_open_55 zp_X6_95 rfl rfl (by omega) ?_
      refine z_aload_0 dX6_open_58 ?_
      refine z_getI (j := 7) dX6_open_59 zf_X6_95 rfl rfl ?_
      refine z_top (b := ((σ.1 0 7) + 1)) zsF_eq ?_
      refine z_iret dX6_open_62 rfl ?_
      exact h1 (by omega) (by omega) t ht (by omega)
    · refine z_bipush (-4) dX6_open_32 (by decide +kernel) ?_
      refine z_iret dX6_open_34 rfl ?_
      exact h4 (by omega) (by omega) (by omega)
  · refine z_b1 ?_
    refine z_if_ne (tgt := 13) dX6_open_8 (by decide) ⟨by decide, by decide⟩ (fun c8 => by exfalso; omega) (fun c8 => ?_)
    refine z_iconst (-1) dX6_open_11 rfl ?_
    refine z_iret dX6_open_12 rfl ?_
    exact hm (by omega)

set_option maxRecDepth 100000 in
theorem M_X6_close {G : zG} {σ : zSt} {Post : Option Value → zSt → Prop} (hl0 : 0 ≤ σ.1 0 7) (hl : σ.1 0 7 ≤ 6) (h0 : σ.1 0 7 = 0 → Post (some (.int (zI (-3)))) σ) (h1 : ∀ t : Nat, t < 6 → σ.1 0 7 = (t : Int) + 1 → Post (some (.int (zI 1))) (zsF σ (18 + t) 3 1)) : zV G shC mX6_close 0 (zini 2 [.ref (zad G 0)]) [] σ Post := by
  refine z_rg (fun hR => ?_)
  refine z_lv (lv' := [some (.ref (zad G 0)), none]) rfl ?_
  refine z_aload_0 dX6_close_0 ?_
  refine z_callV mX6_topLevel [] dX6_close_1 zk_X6_topLevel zl_X6_102 ⟨Nat.le_of_ble_eq_true rfl, Nat.le_of_ble_eq_true rfl⟩ rfl rfl (Nat.le_of_ble_eq_true rfl) (Nat.le_of_ble_eq_true rfl) ?_
  refine M_X6_topLevel (by omega) (by omega) (fun t ht hte => ?_) (fun hte => ?_)
  · refine z_b1 ?_
    refine z_astore_1 dX6_close_4 (Nat.le_of_ble_eq_true rfl) rfl ?_
    refine z_aload_1 dX6_close_5 ?_
    refine z_ifnonnull (tgt := 12) dX6_close_6 (by decide) ?_
    refine z_aload_1 dX6_close_12 ?_
    refine z_iconst 1 dX6_close_13 rfl ?_
    refine z_putZ (j := 3) dX6_close_14 zp_X6_106 (shC_lv ht) rfl (by omega) ?_
    refine z_iconst 1 dX6_close_17 rfl ?_
    refine z_iret dX6_close_18 rfl ?_
    exact h1 t ht hte
  · refine z_b1 ?_
    refine z_astoreNN (i := 1) dX6_close_4 rfl (by simp) (Nat.le_of_ble_eq_true rfl) (zpvS (i := 0) rfl rfl) ?_
    refine z_lv (lv' := [some (.ref (zad G 0)), some (.null)]) rfl ?_
    refine z_aloadNN (i := 1) dX6_close_5 rfl rfl ?_
    refine z_ifnonnullN dX6_close_6 ?_
    refine z_bipush (-3) dX6_close_9 (by decide +kernel) ?_
    refine z_iret dX6_close_11 rfl ?_
    exact h0 hte

set_option maxRecDepth 100000 in
theorem M_X6_name {G : zG} {σ : zSt} {Post : Option Value → zSt → Prop} (a k : Int) (ha : zR a) (hk : zR k) (hsz : σ.1 5 3 ≤ 150) (hln : ∀ q, 0 ≤ σ.2 14 q ∧ σ.2 14 q ≤ 40) (h : Post (some (.int (zI (zns (σ.2 13) (σ.2 14) (σ.1 5 3) a k)))) σ) : zV G shC mX6_name 0 (zini 3 [.ref (zad G 0), .int (zI a), .int (zI k)]) [] σ Post := by
  refine z_rg (fun hR => ?_)
  refine z_lv (lv' := [some (.ref (zad G 0)), some (.int (zI a)), some (.int (zI k))]) rfl ?_
  refine z_aload_0 dX6_name_0 ?_
  refine z_getR (j := 4) dX6_name_1 zf_X6_37 rfl rfl ?_
  refine z_iload_1 dX6_name_4 ?_
  refine z_iload_2 dX6_name_5 ?_
  refine z_callV mX3_sign [.int (zI a), .int (zI k)] dX6_name_6 zk_X3_sign zl_X6_154 ⟨Nat.le_of_ble_eq_true rfl, Nat.le_of_ble_eq_true rfl⟩ rfl rfl (Nat.le_of_ble_eq_true rfl) (Nat.le_of_ble_eq_true rfl) ?_
  refine M_X3_sign a k (by omega) (by omega) (by omega) hln ?_
  refine z_b1 ?_
  have w1 := zns_R (σ.2 13) (σ.2 14) (σ.1 5 3) a k (fun q => hR.2 13 q)
  refine z_iret dX6_name_9 rfl ?_
  exact h

set_option maxRecDepth 100000 in
theorem M_X6_told {G : zG} {σ : zSt} {Post : Option Value → zSt → Prop} (a k : Int) (ha : zR a) (hk : zR k) (hs0 : 0 ≤ σ.1 7 1) (h1 : 0 ≤ a → a < σ.1 7 1 → a < 100 → 0 ≤ k → k < 3 → Post (some (.int (zI (σ.2 17 (a * 3 + k))))) σ) (h0 : ¬ (0 ≤ a ∧ a < σ.1 7 1 ∧ a < 100 ∧ 0 ≤ k ∧ k < 3) → Post (some (.int (zI (-1)))) σ) : zV G shC mX6_told 0 (zini 3 [.ref (zad G 0), .int (zI a), .int (zI k)]) [] σ Post := by
  refine z_rg (fun hR => ?_)
  refine z_lv (lv' := [some (.ref (zad G 0)), some (.int (zI a)), some (.int (zI k))]) rfl ?_
  refine z_aload_0 dX6_told_0 ?_
  refine z_getR (j := 6) dX6_told_1 zf_X6_51 rfl rfl ?_
  refine z_iload_1 dX6_told_4 ?_
  refine z_iload_2 dX6_told_5 ?_
  refine z_callV mX4_part [.int (zI a), .int (zI k)] dX6_told_6 zk_X4_part zl_X6_157 ⟨Nat.le_of_ble_eq_true rfl, Nat.le_of_ble_eq_true rfl⟩ rfl rfl (Nat.le_of_ble_eq_true rfl) (Nat.le_of_ble_eq_true rfl) ?_
  refine M_X4_part a k (by omega) (by omega) (by omega) (fun i1 i2 i3 i4 i5 => ?_) (fun i1 => ?_)
  · refine z_b1 ?_
    have w1 : zR (σ.2 17 ((a * 3) + k)) := hR.2 17 ((a * 3) + k)
    refine z_iret dX6_told_9 rfl ?_
    exact h1 i1 i2 i3 i4 i5
  · refine z_b1 ?_
    refine z_iret dX6_told_9 rfl ?_
    exact h0 i1

set_option maxRecDepth 100000 in
theorem M_X6_categoryOf {G : zG} {σ : zSt} {Post : Option Value → zSt → Prop} (s : Int) (hs : zR s) (h1 : 0 ≤ s → s < 256 → Post (some (.int (zI (σ.2 8 s)))) σ) (h0 : s < 0 ∨ 256 ≤ s → Post (some (.int (zI (-2)))) σ) : zV G shC mX6_categoryOf 0 (zini 2 [.ref (zad G 0), .int (zI s)]) [] σ Post := by
  refine z_rg (fun hR => ?_)
  refine z_lv (lv' := [some (.ref (zad G 0)), some (.int (zI s))]) rfl ?_
  refine z_iload_1 dX6_categoryOf_0 ?_
  refine z_callS mX6_isSign [.int (zI s)] dX6_categoryOf_1 zk_X6_isSign zl_X6_59 ⟨Nat.le_of_ble_eq_true rfl, Nat.le_of_ble_eq_true rfl⟩ (Nat.le_of_ble_eq_true rfl) (Nat.le_of_ble_eq_true rfl) ?_
  refine M_X6_isSign s (by omega) (fun i1 i2 => ?_) (fun i1 => ?_)
  · refine z_b1 ?_
    refine z_if_eq (tgt := 18) dX6_categoryOf_4 (by decide) ⟨by decide, by decide⟩ (fun c4 => by exfalso; omega) (fun c4 => ?_)
    refine z_aload_0 dX6_categoryOf_7 ?_
    refine z_getR (j := 0) dX6_categoryOf_8 zf_X6_10 rfl rfl ?_
    refine z_iload_1 dX6_categoryOf_11 ?_
    refine z_callV mX0_at [.int (zI s)] dX6_categoryOf_12 zk_X0_at zl_X6_158 ⟨Nat.le_of_ble_eq_true rfl, Nat.le_of_ble_eq_true rfl⟩ rfl rfl (Nat.le_of_ble_eq_true rfl) (Nat.le_of_ble_eq_true rfl) ?_
    refine M_X0_at s (by omega) ?_
    refine z_b1 ?_
    have w1 := zat_R (σ.2 8) s (fun q => hR.2 8 q)
    refine z_goto (tgt := 20) dX6_categoryOf_15 (by decide) ?_
    refine z_iret dX6_categoryOf_20 rfl ?_
    exact zPe (h1 (by omega) (by omega)) (zat_in (by omega) (by omega))
  · refine z_b1 ?_
    refine z_if_eq (tgt := 18) dX6_categoryOf_4 (by decide) ⟨by decide, by decide⟩ (fun c4 => ?_) (fun c4 => by exfalso; omega)
    refine z_bipush (-2) dX6_categoryOf_18 (by decide +kernel) ?_
    refine z_iret dX6_categoryOf_20 rfl ?_
    exact h0 (by omega)

set_option maxRecDepth 100000 in
theorem M_X6_state {G : zG} {σ : zSt} {Post : Option Value → zSt → Prop} (hl0 : 0 ≤ σ.1 0 7) (hl : σ.1 0 7 ≤ 6) (h0 : σ.1 0 7 = 0 → Post (some (.int (zI (-1)))) σ) (h1 : ∀ t : Nat, t < 6 → σ.1 0 7 = (t : Int) + 1 → σ.1 (18 + t) 4 = 0 → Post (some (.int (zI (-1)))) σ) (h2 : ∀ t : Nat, t < 6 → σ.1 0 7 = (t : Int) + 1 → σ.1 (18 + t) 4 ≠ 0 → Post (some (.int (zI (σ.1 (18 + t) 7)))) σ) : zV G shC mX6_state 0 (zini 2 [.ref (zad G 0)]) [] σ Post := by
  refine z_rg (fun hR => ?_)
  refine z_lv (lv' := [some (.ref (zad G 0)), none]) rfl ?_
  refine z_aload_0 dX6_state_0 ?_
  refine z_callV mX6_topLevel [] dX6_state_1 zk_X6_topLevel zl_X6_102 ⟨Nat.le_of_ble_eq_true rfl, Nat.le_of_ble_eq_true rfl⟩ rfl rfl (Nat.le_of_ble_eq_true rfl) (Nat.le_of_ble_eq_true rfl) ?_
  refine M_X6_topLevel (by omega) (by omega) (fun t ht hte => ?_) (fun hte => ?_)
  · refine z_b1 ?_
    refine z_astore_1 dX6_state_4 (Nat.le_of_ble_eq_true rfl) rfl ?_
    refine z_aload_1 dX6_state_5 ?_
    refine z_ifnull dX6_state_6 ?_
    refine z_aload_1 dX6_state_9 ?_
    refine z_getI (j := 4) dX6_state_10 zf_X6_133 (shC_lv ht) rfl ?_
    have w1 : zR (σ.1 (18 + t) 4) := hR.1 (18 + t) 4
    refine z_if_eq (tgt := 23) dX6_state_13 (by decide) (by omega) (fun c13 => ?_) (fun c13 => ?_)
    · refine z_iconst (-1) dX6_state_23 rfl ?_
      refine z_iret dX6_state_24 rfl ?_
      first | exact h0 hte | exact h1 t ht hte (by omega)
    · refine z_aload_1 dX6_state_16 ?_
      refine z_getI (j := 7) dX6_state_17 zf_X6_161 (shC_lv ht) rfl ?_
      have w2 : zR (σ.1 (18 + t) 7) := hR.1 (18 + t) 7
      refine z_goto (tgt := 24) dX6_state_20 (by decide) ?_
      refine z_iret dX6_state_24 rfl ?_
      exact h2 t ht hte (by omega)
  · refine z_b1 ?_
    refine z_astoreNN (i := 1) dX6_state_4 rfl (by simp) (Nat.le_of_ble_eq_true rfl) (zpvS (i := 0) rfl rfl) ?_
    refine z_lv (lv' := [some (.ref (zad G 0)), some (.null)]) rfl ?_
    refine z_aloadNN (i := 1) dX6_state_5 rfl rfl ?_
    refine z_ifnullN (tgt := 23) dX6_state_6 (by decide) ?_
    refine z_iconst (-1) dX6_state_23 rfl ?_
    refine z_iret dX6_state_24 rfl ?_
    first | exact h0 hte | exact h1 t ht hte (by omega)

set_option maxRecDepth 100000 in
theorem M_X6_count {G : zG} {σ : zSt} {Post : Option Value → zSt → Prop} (q : Int) (hq : zR q) (hl0 : 0 ≤ σ.1 0 7) (hl : σ.1 0 7 ≤ 6) (h0 : q = 0 → Post (some (.int (zI (σ.1 6 1)))) σ) (h1 : q = 1 → Post (some (.int (zI (σ.1 5 3)))) σ) (h2 : q = 2 → Post (some (.int (zI (σ.1 3 3)))) σ) (h3 : q = 3 → Post (some (.int (zI (σ.1 0 7)))) σ) (h4 : q = 4 → Post (some (.int (zI (σ.1 1 2)))) σ) (h5 : q = 5 → Post (some (.int (zI (σ.1 7 1)))) σ) (h60 : q = 6 → σ.1 0 7 = 0 → Post (some (.int (zI 0))) σ) (h61 : q = 6 → ∀ t : Nat, t < 6 → σ.1 0 7 = (t : Int) + 1 → σ.1 (18 + t) 4 = 0 → Post (some (.int (zI 0))) σ) (h62 : q = 6 → ∀ t : Nat, t < 6 → σ.1 0 7 = (t : Int) + 1 → σ.1 (18 + t) 4 ≠ 0 → σ.1 (18 + t) 6 < σ.1 (18 + t) 5 → Post (some (.int (zI (σ.1 (18 + t) 5 - σ.1 (18 + t) 6)))) σ) (h63 : q = 6 → ∀ t : Nat, t < 6 → σ.1 0 7 = (t : Int) + 1 → σ.1 (18 + t) 4 ≠ 0 → σ.1 (18 + t) 5 ≤ σ.1 (18 + t) 6 → Post (some (.int (zI 0))) σ) (h7 : q = 7 → Post (some (.int (zI (σ.1 0 9)))) σ) (h8 : q < 0 ∨ 7 < q → Post (some (.int (zI (-2)))) σ) : zV G shC mX6_count 0 (zini 2 [.ref (zad G 0), .int (zI q)]) [] σ Post := by
  refine z_rg (fun hR => ?_)
  refine z_lv (lv' := [some (.ref (zad G 0)), some (.int (zI q))]) rfl ?_
  refine z_iload_1 dX6_count_0 ?_
  rcases Decidable.em (q = 0) with c1_0 | c1_0
  · refine z_top c1_0 ?_
    refine z_tabIn (tgt := 48) 0 dX6_count_1 (by omega) (by decide) (by decide) rfl (by decide) ?_
    refine z_aload_0 dX6_count_48 ?_
    refine z_getR (j := 5) dX6_count_49 zf_X6_44 rfl rfl ?_
    refine z_getI (j := 1) dX6_count_52 zf_X6_164 rfl rfl ?_
    have w1 : zR (σ.1 6 1) := hR.1 6 1
    refine z_iret dX6_count_55 rfl ?_
    exact h0 (by omega)
  rcases Decidable.em (q = 1) with c1_1 | c1_1
  · refine z_top c1_1 ?_
    refine z_tabIn (tgt := 56) 1 dX6_count_1 (by omega) (by decide) (by decide) rfl (by decide) ?_
    refine z_aload_0 dX6_count_56 ?_
    refine z_getR (j := 4) dX6_count_57 zf_X6_37 rfl rfl ?_
    refine z_getI (j := 3) dX6_count_60 zf_X6_167 rfl rfl ?_
    have w2 : zR (σ.1 5 3) := hR.1 5 3
    refine z_iret dX6_count_63 rfl ?_
    exact h1 (by omega)
  rcases Decidable.em (q = 2) with c1_2 | c1_2
  · refine z_top c1_2 ?_
    refine z_tabIn (tgt := 64) 2 dX6_count_1 (by omega) (by decide) (by decide) rfl (by decide) ?_
    refine z_aload_0 dX6_count_64 ?_
    refine z_getR (j := 2) dX6_count_65 zf_X6_23 rfl rfl ?_
    refine z_getI (j := 3) dX6_count_68 zf_X6_168 rfl rfl ?_
    have w3 : zR (σ.1 3 3) := hR.1 3 3
    refine z_iret dX6_count_71 rfl ?_
    exact h2 (by omega)
  rcases Decidable.em (q = 3) with c1_3 | c1_3
  · refine z_top c1_3 ?_
    refine z_tabIn (tgt := 72) 3 dX6_count_1 (by omega) (by decide) (by decide) rfl (by decide) ?_
    refine z_aload_0 dX6_count_72 ?_
    refine z_getI (j := 7) dX6_count_73 zf_X6_95 rfl rfl ?_
    have w4 : zR (σ.1 0 7) := hR.1 0 7
    refine z_iret dX6_count_76 rfl ?_
    exact h3 (by omega)
  rcases Decidable.em (q = 4) with c1_4 | c1_4
  · refine z_top c1_4 ?_
    refine z_tabIn (tgt := 77) 4 dX6_count_1 (by omega) (by decide) (by decide) rfl (by decide) ?_
    refine z_aload_0 dX6_count_77 ?_
    refine z_getR (j := 0) dX6_count_78 zf_X6_10 rfl rfl ?_
    refine z_getI (j := 2) dX6_count_81 zf_X6_74 rfl rfl ?_
    have w5 : zR (σ.1 1 2) := hR.1 1 2
    refine z_iret dX6_count_84 rfl ?_
    exact h4 (by omega)
  rcases Decidable.em (q = 5) with c1_5 | c1_5
  · refine z_top c1_5 ?_
    refine z_tabIn (tgt := 85) 5 dX6_count_1 (by omega) (by decide) (by decide) rfl (by decide) ?_
    refine z_aload_0 dX6_count_85 ?_
    refine z_getR (j := 6) dX6_count_86 zf_X6_51 rfl rfl ?_
    refine z_getI (j := 1) dX6_count_89 zf_X6_171 rfl rfl ?_
    have w6 : zR (σ.1 7 1) := hR.1 7 1
    refine z_iret dX6_count_92 rfl ?_
    exact h5 (by omega)
  rcases Decidable.em (q = 6) with c1_6 | c1_6
  · refine z_top c1_6 ?_
    refine z_tabIn (tgt := 93) 6 dX6_count_1 (by omega) (by decide) (by decide) rfl (by decide) ?_
    refine z_aload_0 dX6_count_93 ?_
    refine z_callV mX6_signsLeft [] dX6_count_94 zk_X6_signsLeft zl_X6_172 ⟨Nat.le_of_ble_eq_true rfl, Nat.le_of_ble_eq_true rfl⟩ rfl rfl (Nat.le_of_ble_eq_true rfl) (Nat.le_of_ble_eq_true rfl) ?_
    refine M_X6_signsLeft hl0 hl (fun i0 => ?_) (fun t ht hte i1 => ?_) (fun t ht hte i1 i2 => ?_) (fun t ht hte i1 i2 => ?_)
    · refine z_b1 ?_
      refine z_iret dX6_count_97 rfl ?_
      first | exact h60 (by omega) i0 | exact h61 (by omega) t ht hte i1 | exact h62 (by omega) t ht hte i1 i2 | exact h63 (by omega) t ht hte i1 i2
    · refine z_b1 ?_
      refine z_iret dX6_count_97 rfl ?_
      first | exact h60 (by omega) i0 | exact h61 (by omega) t ht hte i1 | exact h62 (by omega) t ht hte i1 i2 | exact h63 (by omega) t ht hte i1 i2
    · refine z_b1 ?_
      refine z_iret dX6_count_97 rfl ?_
      first | exact h60 (by omega) i0 | exact h61 (by omega) t ht hte i1 | exact h62 (by omega) t ht hte i1 i2 | exact h63 (by omega) t ht hte i1 i2
    · refine z_b1 ?_
      refine z_iret dX6_count_97 rfl ?_
      first | exact h60 (by omega) i0 | exact h61 (by omega) t ht hte i1 | exact h62 (by omega) t ht hte i1 i2 | exact h63 (by omega) t ht hte i1 i2
  rcases Decidable.em (q = 7) with c1_7 | c1_7
  · refine z_top c1_7 ?_
    refine z_tabIn (tgt := 98) 7 dX6_count_1 (by omega) (by decide) (by decide) rfl (by decide) ?_
    refine z_aload_0 dX6_count_98 ?_
    refine z_getI (j := 9) dX6_count_99 zf_X6_175 rfl rfl ?_
    have w7 : zR (σ.1 0 9) := hR.1 0 9
    refine z_iret dX6_count_102 rfl ?_
    exact h7 (by omega)
  refine z_tabOut (tgt := 103) dX6_count_1 (by omega) (by omega) (by decide) ?_
  refine z_bipush (-2) dX6_count_103 (by decide +kernel) ?_
  refine z_iret dX6_count_105 rfl ?_
  exact h8 (by omega)
end
section
/-! the reference: two of its states are alike, but for thrown, sign, width, wordLength -/
def zJ (i j : Nat) : Prop := i = 0 ∧ (j = 0 ∨ j = 26 ∨ j = 27 ∨ j = 29)
def eqM (a b : zSt) : Prop := (∀ i j, ¬ zJ i j → a.1 i j = b.1 i j) ∧ ∀ i, a.2 i = b.2 i
theorem eqM.rfl' {a : zSt} : eqM a a := ⟨fun _ _ _ => rfl, fun _ => rfl⟩
theorem eqM.symm {a b : zSt} (h : eqM a b) : eqM b a := ⟨fun i j q => (h.1 i j q).symm, fun i => (h.2 i).symm⟩
theorem eqM.trans {a b c : zSt} (h : eqM a b) (h' : eqM b c) : eqM a c := ⟨fun i j q => (h.1 i j q).trans (h'.1 i j q), fun i => (h.2 i).trans (h'.2 i)⟩
theorem eqM.jF {a b : zSt} {i j : Nat} {x : Int} (hj : zJ i j) (h : eqM a b) : eqM (zsF a i j x) b := ⟨fun p q hq => (zsF_ne (fun e => hq (by rw [e.1, e.2]; exact hj))).trans (h.1 p q hq), h.2⟩
theorem eqM.F {a b : zSt} {i j : Nat} {x : Int} (h : eqM a b) : eqM (zsF a i j x) (zsF b i j x) := ⟨fun p q hq => by
  show (if p = i ∧ q = j then x else a.1 p q) = (if p = i ∧ q = j then x else b.1 p q)
  rw [h.1 p q hq], h.2⟩
theorem eqM.A {a b : zSt} {i : Nat} {z x : Int} (h : eqM a b) : eqM (zsA a i z x) (zsA b i z x) := ⟨h.1, fun p => by
  funext q
  show (if p = i ∧ q = z then x else a.2 p q) = (if p = i ∧ q = z then x else b.2 p q)
  rw [h.2 p]⟩
theorem eqM.B {a b : zSt} {c : Nat} {d n : Int} {g : Int → Int} (h : eqM a b) : eqM (zsB a c d n g) (zsB b c d n g) := ⟨h.1, fun p => by
  funext q
  show (if p = c ∧ d ≤ q ∧ q < d + n then g (q - d) else a.2 p q) = (if p = c ∧ d ≤ q ∧ q < d + n then g (q - d) else b.2 p q)
  rw [h.2 p]⟩
theorem eqM.S {a b : zSt} {c : Nat} {s n x : Int} (h : eqM a b) : eqM (zsS a c s n x) (zsS b c s n x) := ⟨h.1, fun p => by
  funext q
  show (if p = c ∧ s ≤ q ∧ (q - s) % 256 = 0 ∧ q < s + 256 * n then x else a.2 p q) = (if p = c ∧ s ≤ q ∧ (q - s) % 256 = 0 ∧ q < s + 256 * n then x else b.2 p q)
  rw [h.2 p]⟩
theorem zPq {σ : zSt} {Post : Option Value → zSt → Prop} {a b : Int} {s : zSt} (h : ∀ σ', eqM σ' s → Post (some (.int (zI b))) σ') (e : a = b) (hq : eqM σ s) : Post (some (.int (zI a))) σ := by rw [e]; exact h _ hq
/-- what always holds of the reference's state; N bounds what was told and begun -/
def zInv (N : Int) (σ : zSt) : Prop :=
  (0 ≤ σ.1 0 3 ∧ σ.1 0 3 ≤ 20) ∧ (0 ≤ σ.1 0 6 ∧ σ.1 0 6 ≤ 8) ∧ (0 ≤ σ.1 0 10 ∧ σ.1 0 10 ≤ 6) ∧ (0 ≤ σ.1 0 19 ∧ σ.1 0 19 ≤ 600) ∧ (1 ≤ σ.1 0 21 ∧ σ.1 0 21 ≤ 150) ∧ (-1 ≤ σ.1 0 5 ∧ σ.1 0 5 ≤ 255) ∧ (0 ≤ σ.1 0 24 ∧ σ.1 0 24 ≤ N) ∧ (0 ≤ σ.1 0 18 ∧ σ.1 0 18 ≤ N) ∧
  (∀ q, 0 ≤ σ.2 1 q ∧ σ.2 1 q ≤ 15) ∧ (∀ q, 0 ≤ σ.2 2 q ∧ σ.2 2 q ≤ 15) ∧ (∀ q, 0 ≤ σ.2 3 q ∧ σ.2 3 q ≤ 1) ∧ (∀ q, 0 ≤ σ.2 4 q ∧ σ.2 4 q ≤ 30) ∧ (∀ q, 0 ≤ σ.2 5 q ∧ σ.2 5 q ≤ 120) ∧ (∀ q, 0 ≤ σ.2 6 q ∧ σ.2 6 q ≤ 255) ∧ (∀ q, 0 ≤ σ.2 9 q ∧ σ.2 9 q ≤ 255) ∧ (∀ q, 0 ≤ σ.2 16 q ∧ σ.2 16 q ≤ 40) ∧ (∀ q, 0 ≤ σ.2 15 q ∧ σ.2 15 q ≤ 255) ∧ (∀ q, 0 ≤ σ.2 18 q ∧ σ.2 18 q ≤ 255) ∧
  (∀ t, 0 ≤ σ.2 11 t ∧ σ.2 11 t ≤ σ.2 10 t ∧ σ.2 10 t ≤ 121 ∧ -1 ≤ σ.2 12 t ∧ σ.2 12 t ≤ 2 ∧ 0 ≤ σ.2 13 t ∧ σ.2 13 t ≤ 1) ∧
  (∀ t, 0 ≤ t → t < σ.1 0 10 → 0 ≤ σ.2 7 t ∧ σ.2 7 t < σ.1 0 6 ∧ -1 ≤ σ.2 8 t ∧ σ.2 8 t < σ.2 4 (σ.2 7 t)) ∧
  (∀ a b, 0 ≤ b → b < a → a < σ.1 0 21 → ∃ w, 0 ≤ w ∧ w ≤ 40 ∧ zns (σ.2 15) (σ.2 16) (σ.1 0 21) a w ≠ zns (σ.2 15) (σ.2 16) (σ.1 0 21) b w) ∧
  (∀ i, 0 ≤ i → i < σ.1 0 19 → σ.2 14 (i * 6) = 1 → 0 ≤ σ.2 14 (i * 6 + 1) ∧ σ.2 14 (i * 6 + 1) < σ.1 0 21)

set_option maxRecDepth 100000 in
theorem M_X7_isSign {G : zG} {σ : zSt} {Post : Option Value → zSt → Prop} (s : Int) (hs : zR s) (h1 : 0 ≤ s → s < 256 → Post (some (.int (zI 1))) σ) (h0 : s < 0 ∨ 256 ≤ s → Post (some (.int (zI 0))) σ) : zV G shM mX7_isSign 0 (zini 1 [.int (zI s)]) [] σ Post := by
  refine z_rg (fun hR => ?_)
  refine z_lv (lv' := [some (.int (zI s))]) rfl ?_
  refine z_iload_0 dX7_isSign_0 ?_
  refine z_if_lt (tgt := 15) dX7_isSign_1 (by decide) (by omega) (fun c1 => ?_) (fun c1 => ?_)
  · refine z_iconst 0 dX7_isSign_15 rfl ?_
    refine z_zret dX7_isSign_16 rfl (Or.inl rfl) ?_
    first | exact h1 (by omega) (by omega) | exact h0 (by omega)
  · refine z_iload_0 dX7_isSign_4 ?_
    refine z_sipush 256 dX7_isSign_5 (by decide +kernel) ?_
    refine z_icmp_ge (tgt := 15) dX7_isSign_8 (by decide) (by omega) ⟨by decide, by decide⟩ (fun c8 => ?_) (fun c8 => ?_)
    · refine z_iconst 0 dX7_isSign_15 rfl ?_
      refine z_zret dX7_isSign_16 rfl (Or.inl rfl) ?_
      first | exact h1 (by omega) (by omega) | exact h0 (by omega)
    · refine z_iconst 1 dX7_isSign_11 rfl ?_
      refine z_goto (tgt := 16) dX7_isSign_12 (by decide) ?_
      refine z_zret dX7_isSign_16 rfl (Or.inr rfl) ?_
      first | exact h1 (by omega) (by omega) | exact h0 (by omega)

set_option maxRecDepth 100000 in
theorem M_X7_isLow {G : zG} {σ : zSt} {Post : Option Value → zSt → Prop} (s : Int) (hs : zR s) (h1 : 0 ≤ s → s < 128 → Post (some (.int (zI 1))) σ) (h0 : s < 0 ∨ 128 ≤ s → Post (some (.int (zI 0))) σ) : zV G shM mX7_isLow 0 (zini 1 [.int (zI s)]) [] σ Post := by
  refine z_rg (fun hR => ?_)
  refine z_lv (lv' := [some (.int (zI s))]) rfl ?_
  refine z_iload_0 dX7_isLow_0 ?_
  refine z_if_lt (tgt := 15) dX7_isLow_1 (by decide) (by omega) (fun c1 => ?_) (fun c1 => ?_)
  · refine z_iconst 0 dX7_isLow_15 rfl ?_
    refine z_zret dX7_isLow_16 rfl (Or.inl rfl) ?_
    first | exact h1 (by omega) (by omega) | exact h0 (by omega)
  · refine z_iload_0 dX7_isLow_4 ?_
    refine z_sipush 128 dX7_isLow_5 (by decide +kernel) ?_
    refine z_icmp_ge (tgt := 15) dX7_isLow_8 (by decide) (by omega) ⟨by decide, by decide⟩ (fun c8 => ?_) (fun c8 => ?_)
    · refine z_iconst 0 dX7_isLow_15 rfl ?_
      refine z_zret dX7_isLow_16 rfl (Or.inl rfl) ?_
      first | exact h1 (by omega) (by omega) | exact h0 (by omega)
    · refine z_iconst 1 dX7_isLow_11 rfl ?_
      refine z_goto (tgt := 16) dX7_isLow_12 (by decide) ?_
      refine z_zret dX7_isLow_16 rfl (Or.inr rfl) ?_
      first | exact h1 (by omega) (by omega) | exact h0 (by omega)

set_option maxRecDepth 100000 in
theorem M_X7_digit {G : zG} {σ : zSt} {Post : Option Value → zSt → Prop} (c : Int) (hc : zR c) (h : Post (some (.int (zI (zdig c)))) σ) : zV G shM mX7_digit 0 (zini 1 [.int (zI c)]) [] σ Post := by
  refine z_rg (fun hR => ?_)
  refine z_lv (lv' := [some (.int (zI c))]) rfl ?_
  refine z_iload_0 dX7_digit_0 ?_
  refine z_bipush 48 dX7_digit_1 (by decide +kernel) ?_
  refine z_icmp_lt (tgt := 19) dX7_digit_3 (by decide) (by omega) ⟨by decide, by decide⟩ (fun c3 => ?_) (fun c3 => ?_)
  · refine z_iload_0 dX7_digit_19 ?_
    refine z_bipush 97 dX7_digit_20 (by decide +kernel) ?_
    refine z_icmp_lt (tgt := 38) dX7_digit_22 (by decide) (by omega) ⟨by decide, by decide⟩ (fun c22 => ?_) (fun c22 => ?_)
    · refine z_iconst (-1) dX7_digit_38 rfl ?_
      refine z_iret dX7_digit_39 rfl ?_
      exact zPe h (by unfold zdig; split <;> (try split) <;> omega)
    · refine z_iload_0 dX7_digit_25 ?_
      refine z_bipush 102 dX7_digit_26 (by decide +kernel) ?_
      refine z_icmp_gt (tgt := 38) dX7_digit_28 (by decide) (by omega) ⟨by decide, by decide⟩ (fun c28 => ?_) (fun c28 => ?_)
      · refine z_iconst (-1) dX7_digit_38 rfl ?_
        refine z_iret dX7_digit_39 rfl ?_
        exact zPe h (by unfold zdig; split <;> (try split) <;> omega)
      · refine z_iload_0 dX7_digit_31 ?_
        refine z_bipush 87 dX7_digit_32 (by decide +kernel) ?_
        refine z_isub dX7_digit_34 ?_
        refine z_goto (tgt := 39) dX7_digit_35 (by decide) ?_
        refine z_iret dX7_digit_39 rfl ?_
        exact zPe h (by unfold zdig; split <;> (try split) <;> omega)
  · refine z_iload_0 dX7_digit_6 ?_
    refine z_bipush 57 dX7_digit_7 (by decide +kernel) ?_
    refine z_icmp_gt (tgt := 19) dX7_digit_9 (by decide) (by omega) ⟨by decide, by decide⟩ (fun c9 => ?_) (fun c9 => ?_)
    · refine z_iload_0 dX7_digit_19 ?_
      refine z_bipush 97 dX7_digit_20 (by decide +kernel) ?_
      refine z_icmp_lt (tgt := 38) dX7_digit_22 (by decide) (by omega) ⟨by decide, by decide⟩ (fun c22 => ?_) (fun c22 => ?_)
      · refine z_iconst (-1) dX7_digit_38 rfl ?_
        refine z_iret dX7_digit_39 rfl ?_
        exact zPe h (by unfold zdig; split <;> (try split) <;> omega)
      · refine z_iload_0 dX7_digit_25 ?_
        refine z_bipush 102 dX7_digit_26 (by decide +kernel) ?_
        refine z_icmp_gt (tgt := 38) dX7_digit_28 (by decide) (by omega) ⟨by decide, by decide⟩ (fun c28 => ?_) (fun c28 => ?_)
        · refine z_iconst (-1) dX7_digit_38 rfl ?_
          refine z_iret dX7_digit_39 rfl ?_
          exact zPe h (by unfold zdig; split <;> (try split) <;> omega)
        · refine z_iload_0 dX7_digit_31 ?_
          refine z_bipush 87 dX7_digit_32 (by decide +kernel) ?_
          refine z_isub dX7_digit_34 ?_
          refine z_goto (tgt := 39) dX7_digit_35 (by decide) ?_
          refine z_iret dX7_digit_39 rfl ?_
          exact zPe h (by unfold zdig; split <;> (try split) <;> omega)
    · refine z_iload_0 dX7_digit_12 ?_
      refine z_bipush 48 dX7_digit_13 (by decide +kernel) ?_
      refine z_isub dX7_digit_15 ?_
      refine z_goto (tgt := 39) dX7_digit_16 (by decide) ?_
      refine z_iret dX7_digit_39 rfl ?_
      exact zPe h (by unfold zdig; split <;> (try split) <;> omega)

set_option maxRecDepth 100000 in
theorem M_X7_isFile {G : zG} {σ : zSt} {Post : Option Value → zSt → Prop} (f : Int) (hf : zR f) (h1 : 0 ≤ f → f < σ.1 0 6 → Post (some (.int (zI 1))) σ) (h0 : f < 0 ∨ σ.1 0 6 ≤ f → Post (some (.int (zI 0))) σ) : zV G shM mX7_isFile 0 (zini 2 [.ref (zad G 0), .int (zI f)]) [] σ Post := by
  refine z_rg (fun hR => ?_)
  refine z_lv (lv' := [some (.ref (zad G 0)), some (.int (zI f))]) rfl ?_
  refine z_iload_1 dX7_isFile_0 ?_
  refine z_if_lt (tgt := 16) dX7_isFile_1 (by decide) (by omega) (fun c1 => ?_) (fun c1 => ?_)
  · refine z_iconst 0 dX7_isFile_16 rfl ?_
    refine z_zret dX7_isFile_17 rfl (Or.inl rfl) ?_
    first | exact h1 (by omega) (by omega) | exact h0 (by omega)
  · refine z_iload_1 dX7_isFile_4 ?_
    refine z_aload_0 dX7_isFile_5 ?_
    refine z_getI (j := 6) dX7_isFile_6 zf_X7_82 rfl rfl ?_
    have w1 : zR (σ.1 0 6) := hR.1 0 6
    refine z_icmp_ge (tgt := 16) dX7_isFile_9 (by decide) (by omega) (by omega) (fun c9 => ?_) (fun c9 => ?_)
    · refine z_iconst 0 dX7_isFile_16 rfl ?_
      refine z_zret dX7_isFile_17 rfl (Or.inl rfl) ?_
      first | exact h1 (by omega) (by omega) | exact h0 (by omega)
    · refine z_iconst 1 dX7_isFile_12 rfl ?_
      refine z_goto (tgt := 17) dX7_isFile_13 (by decide) ?_
      refine z_zret dX7_isFile_17 rfl (Or.inr rfl) ?_
      first | exact h1 (by omega) (by omega) | exact h0 (by omega)

set_option maxRecDepth 100000 in
theorem M_X7_thrown {G : zG} {σ : zSt} {Post : Option Value → zSt → Prop} {N : Int} (hI : zInv N σ) (hN : N ≤ 2000000000) (h : Post (some (.int (zI (σ.1 0 0)))) σ) : zV G shM mX7_thrown 0 (zini 1 [.ref (zad G 0)]) [] σ Post := by
  refine z_rg (fun hR => ?_)
  refine z_lv (lv' := [some (.ref (zad G 0))]) rfl ?_
  obtain ⟨hgr, hfi, hle, hto, hna, hes, htl, hbg, hca, hsa, hme, hlc, hln, hsg, hrw, hnl, hns, hwd, hlv, hlf, hdi, htk⟩ := hI
  refine z_aload_0 dX7_thrown_0 ?_
  refine z_getI (j := 0) dX7_thrown_1 zf_X7_72 rfl rfl ?_
  have w1 : zR (σ.1 0 0) := hR.1 0 0
  refine z_iret dX7_thrown_4 rfl ?_
  exact h

set_option maxRecDepth 100000 in
theorem L_X7_cat {G : zG} {σ : zSt} {Post : Option Value → zSt → Prop} (s c g : Int) (hR : zRg σ) (hs0 : 0 ≤ s) (hs1 : s < 256) (hc : zR c) (hg : zR g) (hg0 : 0 ≤ σ.1 0 3) (hg1 : σ.1 0 3 ≤ 20) (hgn : g ≠ 0) (h : Post (some (.int (zI 1))) (zsS σ 2 s (σ.1 0 3) c)) : ∀ (m : Nat) (j : Int) (hj0 : 0 ≤ j) (hm : j + m = σ.1 0 3), zV G shM mX7_category 35 [some (.ref (zad G 0)), some (.int (zI s)), some (.int (zI c)), some (.int (zI g)), some (.int (zI j))] [] (zsS σ 2 s j c) Post := by
  intro m
  induction m with
  | zero =>
    intro j hj0 hm
    refine z_iload_4 dX7_category_35 ?_
    refine z_aload_0 dX7_category_37 ?_
    refine z_getI (j := 3) dX7_category_38 zf_X7_79 rfl rfl ?_
    refine z_top (b := σ.1 0 3) zsS_F ?_
    have w1 : zR (σ.1 0 3) := hR.1 0 3
    refine z_icmp_ge (tgt := 68) dX7_category_41 (by decide) (by omega) (by omega) (fun c41 => ?_) (fun c41 => by exfalso; omega)
    refine z_iconst 1 dX7_category_68 rfl ?_
    refine z_iret dX7_category_69 rfl ?_
    have e : j = σ.1 0 3 := by omega
    subst e
    exact h
  | succ m ih =>
    intro j hj0 hm
    refine z_iload_4 dX7_category_35 ?_
    refine z_aload_0 dX7_category_37 ?_
    refine z_getI (j := 3) dX7_category_38 zf_X7_79 rfl rfl ?_
    refine z_top (b := σ.1 0 3) zsS_F ?_
    have w1 : zR (σ.1 0 3) := hR.1 0 3
    refine z_icmp_ge (tgt := 68) dX7_category_41 (by decide) (by omega) (by omega) (fun c41 => by exfalso; omega) (fun c41 => ?_)
    refine z_iload_3 dX7_category_44 ?_
    refine z_if_eq (tgt := 68) dX7_category_45 (by decide) (by omega) (fun c45 => by exfalso; omega) (fun c45 => ?_)
    refine z_aload_0 dX7_category_48 ?_
    refine z_getR (j := 2) dX7_category_49 zf_X7_13 rfl rfl ?_
    refine z_sipush 256 dX7_category_52 (by decide +kernel) ?_
    refine z_iload_4 dX7_category_55 ?_
    refine z_imul dX7_category_57 ?_
    refine z_iload_1 dX7_category_58 ?_
    refine z_iadd dX7_category_59 ?_
    refine z_iload_2 dX7_category_60 ?_
    refine z_iast dX7_category_61 rfl (by decide) (by omega) (by omega) (by omega) ?_
    refine z_iinc_4 dX7_category_62 (Nat.le_of_ble_eq_true rfl) rfl ?_
    refine z_goto (tgt := 35) dX7_category_65 (by decide) ?_
    exact z_st (zsS_S hj0 (by omega)) (ih (j + 1) (by omega) (by omega))

set_option maxRecDepth 100000 in
theorem M_X7_category {G : zG} {σ : zSt} {Post : Option Value → zSt → Prop} {N : Int} (hI : zInv N σ) (hN : N ≤ 2000000000) (s c g : Int) (hs : zR s) (hc : zR c) (hg : zR g) (h2 : ¬ (0 ≤ s ∧ s < 256 ∧ 0 ≤ c ∧ c < 16) → ∀ σ2, eqM σ2 σ → Post (some (.int (zI (-2)))) σ2) (h1 : 0 ≤ s → s < 256 → 0 ≤ c → c < 16 → g ≠ 0 → ∀ σ2, eqM σ2 (zsS (zsA σ 1 s c) 2 s (σ.1 0 3) c) → Post (some (.int (zI 1))) σ2) (h0 : 0 ≤ s → s < 256 → 0 ≤ c → c < 16 → g = 0 → ∀ σ2, eqM σ2 (zsA σ 1 s c) → Post (some (.int (zI 1))) σ2) : zV G shM mX7_category 0 (zini 5 [.ref (zad G 0), .int (zI s), .int (zI c), .int (zI g)]) [] σ Post := by
  refine z_rg (fun hR => ?_)
  refine z_lv (lv' := [some (.ref (zad G 0)), some (.int (zI s)), some (.int (zI c)), some (.int (zI g)), none]) rfl ?_
  obtain ⟨hgr, hfi, hle, hto, hna, hes, htl, hbg, hca, hsa, hme, hlc, hln, hsg, hrw, hnl, hns, hwd, hlv, hlf, hdi, htk⟩ := hI
  refine z_aload_0 dX7_category_0 ?_
  refine z_iconst 0 dX7_category_1 rfl ?_
  refine z_putI (j := 0) dX7_category_2 zp_X7_72 rfl rfl ⟨by decide, by decide⟩ ?_
  refine z_iload_1 dX7_category_5 ?_
  refine z_callS mX7_isSign [.int (zI s)] dX7_category_6 zk_X7_isSign zl_X7_75 ⟨Nat.le_of_ble_eq_true rfl, Nat.le_of_ble_eq_true rfl⟩ (Nat.le_of_ble_eq_true rfl) (Nat.le_of_ble_eq_true rfl) ?_
  refine M_X7_isSign s (by omega) (fun i1 i2 => ?_) (fun i1 => ?_)
  · refine z_b1 ?_
    refine z_if_eq (tgt := 22) dX7_category_9 (by decide) ⟨by decide, by decide⟩ (fun c9 => by exfalso; omega) (fun c9 => ?_)
    refine z_iload_2 dX7_category_12 ?_
    refine z_if_lt (tgt := 22) dX7_category_13 (by decide) (by omega) (fun c13 => ?_) (fun c13 => ?_)
    · refine z_bipush (-2) dX7_category_22 (by decide +kernel) ?_
      refine z_iret dX7_category_24 rfl ?_
      exact zPq (h2 (by omega)) rfl (eqM.jF (by unfold zJ; omega) eqM.rfl')
    · refine z_iload_2 dX7_category_16 ?_
      refine z_bipush 15 dX7_category_17 (by decide +kernel) ?_
      refine z_icmp_le (tgt := 25) dX7_category_19 (by decide) (by omega) ⟨by decide, by decide⟩ (fun c19 => ?_) (fun c19 => ?_)
      · refine z_aload_0 dX7_category_25 ?_
        refine z_getR (j := 1) dX7_category_26 zf_X7_7 rfl rfl ?_
        refine z_iload_1 dX7_category_29 ?_
        refine z_iload_2 dX7_category_30 ?_
        refine z_iast dX7_category_31 rfl (by decide) (by omega) (by omega) (by omega) ?_
        refine z_iconst 0 dX7_category_32 rfl ?_
        refine z_istore_4 dX7_category_33 (Nat.le_of_ble_eq_true rfl) rfl ?_
        rcases Decidable.em (g = 0) with hg9 | hg9
        · refine z_iload_4 dX7_category_35 ?_
          refine z_aload_0 dX7_category_37 ?_
          refine z_getI (j := 3) dX7_category_38 zf_X7_79 rfl rfl ?_
          refine z_top (b := σ.1 0 3) (zsA_F.trans (zsF_ne (by omega))) ?_
          refine z_icmp_ge (tgt := 68) dX7_category_41 (by decide) ⟨by decide, by decide⟩ (by omega) (fun c41 => ?_) (fun c41 => ?_)
          · refine z_iconst 1 dX7_category_68 rfl ?_
            refine z_iret dX7_category_69 rfl ?_
            exact h0 (by omega) (by omega) (by omega) (by omega) hg9 _ (eqM.A (eqM.jF (by unfold zJ; omega) eqM.rfl'))
          · refine z_iload_3 dX7_category_44 ?_
            refine z_if_eq (tgt := 68) dX7_category_45 (by decide) hg (fun c45 => ?_) (fun c45 => absurd hg9 c45)
            refine z_iconst 1 dX7_category_68 rfl ?_
            refine z_iret dX7_category_69 rfl ?_
            exact h0 (by omega) (by omega) (by omega) (by omega) hg9 _ (eqM.A (eqM.jF (by unfold zJ; omega) eqM.rfl'))
        · have e0 : (zsA (zsF σ 0 0 0) 1 s c).1 0 3 = σ.1 0 3 := zsA_F.trans (zsF_ne (by omega))
          refine z_st zsS_0.symm (L_X7_cat s c g (zRg.A (zRg.F hR (by omega)) hc) (by omega) (by omega) hc hg (by omega) (by omega) hg9 ?_ (σ.1 0 3).toNat 0 (by omega) (by omega))
          rw [e0]
          exact h1 (by omega) (by omega) (by omega) (by omega) hg9 _ (eqM.S (eqM.A (eqM.jF (by unfold zJ; omega) eqM.rfl')))
      · refine z_bipush (-2) dX7_category_22 (by decide +kernel) ?_
        refine z_iret dX7_category_24 rfl ?_
        exact zPq (h2 (by omega)) rfl (eqM.jF (by unfold zJ; omega) eqM.rfl')
  · refine z_b1 ?_
    refine z_if_eq (tgt := 22) dX7_category_9 (by decide) ⟨by decide, by decide⟩ (fun c9 => ?_) (fun c9 => by exfalso; omega)
    refine z_bipush (-2) dX7_category_22 (by decide +kernel) ?_
    refine z_iret dX7_category_24 rfl ?_
    exact zPq (h2 (by omega)) rfl (eqM.jF (by unfold zJ; omega) eqM.rfl')

set_option maxRecDepth 100000 in
theorem L_X7_grp1 {G : zG} {σ : zSt} {Post : Option Value → zSt → Prop} (b : Int) (hR : zRg σ) (hb : zR b) (hb0 : b ≠ 0) (hg0 : 0 ≤ σ.1 0 3) (hg1 : σ.1 0 3 < 20) (h : zV G shM mX7_group 148 [some (.ref (zad G 0)), some (.int (zI b)), some (.int (zI 256))] [] (zsB σ 2 (256 * σ.1 0 3) 256 (σ.2 1)) Post) : ∀ (m : Nat) (i : Int) (hi0 : 0 ≤ i) (hm : i + m = 256), zV G shM mX7_group 58 [some (.ref (zad G 0)), some (.int (zI b)), some (.int (zI i))] [] (zsB σ 2 (256 * σ.1 0 3) i (σ.2 1)) Post := by
  intro m
  induction m with
  | zero =>
    intro i hi0 hm
    refine z_iload_2 dX7_group_58 ?_
    refine z_sipush 256 dX7_group_59 (by decide +kernel) ?_
    refine z_icmp_ge (tgt := 148) dX7_group_62 (by decide) (by omega) ⟨by decide, by decide⟩ (fun c62 => ?_) (fun c62 => by exfalso; omega)
    have e : i = 256 := by omega
    subst e
    exact h
  | succ m ih =>
    intro i hi0 hm
    refine z_iload_2 dX7_group_58 ?_
    refine z_sipush 256 dX7_group_59 (by decide +kernel) ?_
    refine z_icmp_ge (tgt := 148) dX7_group_62 (by decide) (by omega) ⟨by decide, by decide⟩ (fun c62 => by exfalso; omega) (fun c62 => ?_)
    refine z_aload_0 dX7_group_65 ?_
    refine z_getR (j := 2) dX7_group_66 zf_X7_13 rfl rfl ?_
    refine z_sipush 256 dX7_group_69 (by decide +kernel) ?_
    refine z_aload_0 dX7_group_72 ?_
    refine z_getI (j := 3) dX7_group_73 zf_X7_79 rfl rfl ?_
    refine z_top (b := σ.1 0 3) zsB_F ?_
    have w1 : zR (σ.1 0 3) := hR.1 0 3
    refine z_imul dX7_group_76 ?_
    refine z_iload_2 dX7_group_77 ?_
    refine z_iadd dX7_group_78 ?_
    refine z_iload_1 dX7_group_79 ?_
    refine z_if_eq (tgt := 92) dX7_group_80 (by decide) (by omega) (fun c80 => by exfalso; omega) (fun c80 => ?_)
    refine z_aload_0 dX7_group_83 ?_
    refine z_getR (j := 1) dX7_group_84 zf_X7_7 rfl rfl ?_
    refine z_iload_2 dX7_group_87 ?_
    refine z_iald dX7_group_88 rfl (by decide) (by omega) (by omega) ?_
    refine z_top (b := σ.2 1 i) (zsB_ne1 (by omega)) ?_
    have w2 : zR (σ.2 1 i) := hR.2 1 i
    refine z_goto (tgt := 107) dX7_group_89 (by decide) ?_
    refine z_iast dX7_group_107 rfl (by decide) (by omega) (by omega) (by omega) ?_
    refine z_aload_0 dX7_group_108 ?_
    refine z_getR (j := 1) dX7_group_109 zf_X7_7 rfl rfl ?_
    refine z_iload_2 dX7_group_112 ?_
    refine z_iload_1 dX7_group_113 ?_
    refine z_if_eq (tgt := 126) dX7_group_114 (by decide) (by omega) (fun c114 => by exfalso; omega) (fun c114 => ?_)
    refine z_aload_0 dX7_group_117 ?_
    refine z_getR (j := 1) dX7_group_118 zf_X7_7 rfl rfl ?_
    refine z_iload_2 dX7_group_121 ?_
    refine z_iald dX7_group_122 rfl (by decide) (by omega) (by omega) ?_
    refine z_top (b := σ.2 1 i) ((zsA_ne1 (by omega)).trans (zsB_ne1 (by omega))) ?_
    have w3 : zR (σ.2 1 i) := hR.2 1 i
    refine z_goto (tgt := 141) dX7_group_123 (by decide) ?_
    refine z_iast dX7_group_141 rfl (by decide) (by omega) (by omega) (by omega) ?_
    refine z_iinc_2 dX7_group_142 (Nat.le_of_ble_eq_true rfl) rfl ?_
    refine z_goto (tgt := 58) dX7_group_145 (by decide) ?_
    exact z_st ((zsA_id ((zsA_ne1 (by omega)).trans (zsB_ne1 (by omega)))).trans (zsB_S hi0 rfl rfl)) (ih (i + 1) (by omega) (by omega))

set_option maxRecDepth 100000 in
theorem L_X7_grp0 {G : zG} {σ : zSt} {Post : Option Value → zSt → Prop} (b : Int) (hR : zRg σ) (hb : zR b) (hb0 : b = 0) (hg0 : 0 ≤ σ.1 0 3) (hg1 : σ.1 0 3 < 20) (h : zV G shM mX7_group 148 [some (.ref (zad G 0)), some (.int (zI b)), some (.int (zI 256))] [] (zsB σ 1 0 256 (fun q => σ.2 2 (256 * σ.1 0 3 + q))) Post) : ∀ (m : Nat) (i : Int) (hi0 : 0 ≤ i) (hm : i + m = 256), zV G shM mX7_group 58 [some (.ref (zad G 0)), some (.int (zI b)), some (.int (zI i))] [] (zsB σ 1 0 i (fun q => σ.2 2 (256 * σ.1 0 3 + q))) Post := by
  intro m
  induction m with
  | zero =>
    intro i hi0 hm
    refine z_iload_2 dX7_group_58 ?_
    refine z_sipush 256 dX7_group_59 (by decide +kernel) ?_
    refine z_icmp_ge (tgt := 148) dX7_group_62 (by decide) (by omega) ⟨by decide, by decide⟩ (fun c62 => ?_) (fun c62 => by exfalso; omega)
    have e : i = 256 := by omega
    subst e
    exact h
  | succ m ih =>
    intro i hi0 hm
    refine z_iload_2 dX7_group_58 ?_
    refine z_sipush 256 dX7_group_59 (by decide +kernel) ?_
    refine z_icmp_ge (tgt := 148) dX7_group_62 (by decide) (by omega) ⟨by decide, by decide⟩ (fun c62 => by exfalso; omega) (fun c62 => ?_)
    refine z_aload_0 dX7_group_65 ?_
    refine z_getR (j := 2) dX7_group_66 zf_X7_13 rfl rfl ?_
    refine z_sipush 256 dX7_group_69 (by decide +kernel) ?_
    refine z_aload_0 dX7_group_72 ?_
    refine z_getI (j := 3) dX7_group_73 zf_X7_79 rfl rfl ?_
    refine z_top (b := σ.1 0 3) zsB_F ?_
    have w1 : zR (σ.1 0 3) := hR.1 0 3
    refine z_imul dX7_group_76 ?_
    refine z_iload_2 dX7_group_77 ?_
    refine z_iadd dX7_group_78 ?_
    refine z_iload_1 dX7_group_79 ?_
    refine z_if_eq (tgt := 92) dX7_group_80 (by decide) (by omega) (fun c80 => ?_) (fun c80 => by exfalso; omega)
    refine z_aload_0 dX7_group_92 ?_
    refine z_getR (j := 2) dX7_group_93 zf_X7_13 rfl rfl ?_
    refine z_sipush 256 dX7_group_96 (by decide +kernel) ?_
    refine z_aload_0 dX7_group_99 ?_
    refine z_getI (j := 3) dX7_group_100 zf_X7_79 rfl rfl ?_
    refine z_top (b := σ.1 0 3) zsB_F ?_
    have w2 : zR (σ.1 0 3) := hR.1 0 3
    refine z_imul dX7_group_103 ?_
    refine z_iload_2 dX7_group_104 ?_
    refine z_iadd dX7_group_105 ?_
    refine z_iald dX7_group_106 rfl (by decide) (by omega) (by omega) ?_
    refine z_top (b := σ.2 2 ((256 * (σ.1 0 3)) + i)) (zsB_ne1 (by omega)) ?_
    have w3 : zR (σ.2 2 ((256 * (σ.1 0 3)) + i)) := hR.2 2 ((256 * (σ.1 0 3)) + i)
    refine z_iast dX7_group_107 rfl (by decide) (by omega) (by omega) (by omega) ?_
    refine z_aload_0 dX7_group_108 ?_
    refine z_getR (j := 1) dX7_group_109 zf_X7_7 rfl rfl ?_
    refine z_iload_2 dX7_group_112 ?_
    refine z_iload_1 dX7_group_113 ?_
    refine z_if_eq (tgt := 126) dX7_group_114 (by decide) (by omega) (fun c114 => ?_) (fun c114 => by exfalso; omega)
    refine z_aload_0 dX7_group_126 ?_
    refine z_getR (j := 2) dX7_group_127 zf_X7_13 rfl rfl ?_
    refine z_sipush 256 dX7_group_130 (by decide +kernel) ?_
    refine z_aload_0 dX7_group_133 ?_
    refine z_getI (j := 3) dX7_group_134 zf_X7_79 rfl rfl ?_
    refine z_top (b := σ.1 0 3) (zsA_F.trans zsB_F) ?_
    have w4 : zR (σ.1 0 3) := hR.1 0 3
    refine z_imul dX7_group_137 ?_
    refine z_iload_2 dX7_group_138 ?_
    refine z_iadd dX7_group_139 ?_
    refine z_iald dX7_group_140 rfl (by decide) (by omega) (by omega) ?_
    refine z_top (b := σ.2 2 ((256 * (σ.1 0 3)) + i)) zsA_eq ?_
    have w5 : zR (σ.2 2 ((256 * (σ.1 0 3)) + i)) := hR.2 2 ((256 * (σ.1 0 3)) + i)
    refine z_iast dX7_group_141 rfl (by decide) (by omega) (by omega) (by omega) ?_
    refine z_iinc_2 dX7_group_142 (Nat.le_of_ble_eq_true rfl) rfl ?_
    refine z_goto (tgt := 58) dX7_group_145 (by decide) ?_
    have e1 : (zsB σ 1 0 i (fun q => σ.2 2 (256 * σ.1 0 3 + q))).2 2 (256 * σ.1 0 3 + i) = σ.2 2 (256 * σ.1 0 3 + i) := zsB_ne1 (by omega)
    refine z_st (congrArg (fun q => zsA q 1 i (σ.2 2 (256 * σ.1 0 3 + i))) (zsA_id e1)) ?_
    exact z_st (zsB_S hi0 (by omega) rfl) (ih (i + 1) (by omega) (by omega))

theorem zg_1 {σ : zSt} {i j : Nat} {x y : Int} : zsF (zsF σ i j x) i j y = zsF σ i j y := by
  refine Prod.ext (funext fun a => funext fun b => ?_) rfl
  show (if a = i ∧ b = j then y else if a = i ∧ b = j then x else σ.1 a b) = if a = i ∧ b = j then y else σ.1 a b
  by_cases q : a = i ∧ b = j
  · rw [if_pos q, if_pos q]
  · rw [if_neg q, if_neg q, if_neg q]
theorem zsF_id {σ : zSt} {i j : Nat} {x : Int} (h : σ.1 i j = x) : zsF σ i j x = σ := by
  refine Prod.ext (funext fun a => funext fun b => ?_) rfl
  show (if a = i ∧ b = j then x else σ.1 a b) = σ.1 a b
  by_cases q : a = i ∧ b = j
  · rw [if_pos q, q.1, q.2, h]
  · rw [if_neg q]

set_option maxRecDepth 100000 in
theorem M_X7_group {G : zG} {σ : zSt} {Post : Option Value → zSt → Prop} {N : Int} (hI : zInv N σ) (hN : N ≤ 2000000000) (b : Int) (hb : zR b) (h3 : b = 0 → σ.1 0 3 = 0 → ∀ σ2, eqM σ2 σ → Post (some (.int (zI (-3)))) σ2) (h4 : b ≠ 0 → σ.1 0 3 = 20 → ∀ σ2, eqM σ2 σ → Post (some (.int (zI (-4)))) σ2) (h1 : b ≠ 0 → σ.1 0 3 < 20 → ∀ σ2, eqM σ2 (zsF (zsB σ 2 (256 * σ.1 0 3) 256 (σ.2 1)) 0 3 (σ.1 0 3 + 1)) → Post (some (.int (zI (σ.1 0 3 + 1)))) σ2) (h2 : b = 0 → 0 < σ.1 0 3 → ∀ σ2, eqM σ2 (zsB (zsF σ 0 3 (σ.1 0 3 - 1)) 1 0 256 (fun q => σ.2 2 (256 * (σ.1 0 3 - 1) + q))) → Post (some (.int (zI (σ.1 0 3 - 1)))) σ2) : zV G shM mX7_group 0 (zini 3 [.ref (zad G 0), .int (zI b)]) [] σ Post := by
  refine z_rg (fun hR => ?_)
  refine z_lv (lv' := [some (.ref (zad G 0)), some (.int (zI b)), none]) rfl ?_
  obtain ⟨hgr, hfi, hle, hto, hna, hes, htl, hbg, hca, hsa, hme, hlc, hln, hsg, hrw, hnl, hns, hwd, hlv, hlf, hdi, htk⟩ := hI
  refine z_aload_0 dX7_group_0 ?_
  refine z_iconst 0 dX7_group_1 rfl ?_
  refine z_putI (j := 0) dX7_group_2 zp_X7_72 rfl rfl ⟨by decide, by decide⟩ ?_
  refine z_iload_1 dX7_group_5 ?_
  refine z_if_ne (tgt := 19) dX7_group_6 (by decide) (by omega) (fun c6 => ?_) (fun c6 => ?_)
  · refine z_iload_1 dX7_group_19 ?_
    refine z_if_eq (tgt := 35) dX7_group_20 (by decide) (by omega) (fun c20 => by exfalso; omega) (fun c20 => ?_)
    refine z_aload_0 dX7_group_23 ?_
    refine z_getI (j := 3) dX7_group_24 zf_X7_79 rfl rfl ?_
    refine z_top (b := σ.1 0 3) (zsF_ne (by omega)) ?_
    have w1 : zR (σ.1 0 3) := hR.1 0 3
    refine z_bipush 20 dX7_group_27 (by decide +kernel) ?_
    refine z_icmp_ne (tgt := 35) dX7_group_29 (by decide) (by omega) ⟨by decide, by decide⟩ (fun c29 => ?_) (fun c29 => ?_)
    · refine z_aload_0 dX7_group_35 ?_
      refine z_iload_1 dX7_group_36 ?_
      refine z_if_eq (tgt := 47) dX7_group_37 (by decide) (by omega) (fun c37 => by exfalso; omega) (fun c37 => ?_)
      refine z_aload_0 dX7_group_40 ?_
      refine z_getI (j := 3) dX7_group_41 zf_X7_79 rfl rfl ?_
      refine z_top (b := σ.1 0 3) (zsF_ne (by omega)) ?_
      have w2 : zR (σ.1 0 3) := hR.1 0 3
      refine z_goto (tgt := 53) dX7_group_44 (by decide) ?_
      refine z_putI (j := 3) dX7_group_53 zp_X7_79 rfl rfl (by omega) ?_
      refine z_iconst 0 dX7_group_56 rfl ?_
      refine z_istore_2 dX7_group_57 (Nat.le_of_ble_eq_true rfl) rfl ?_
      have e0 : (zsF (zsF σ 0 0 0) 0 3 (σ.1 0 3)).1 0 3 = σ.1 0 3 := zsF_eq
      refine z_st zsB_0.symm (L_X7_grp1 (σ := zsF (zsF σ 0 0 0) 0 3 (σ.1 0 3)) b (zRg.F (zRg.F hR (by omega)) (by omega)) hb (by omega) (by omega) (by omega) ?_ 256 0 (by omega) (by omega))
      rw [e0]
      refine z_aload_0 dX7_group_148 ?_
      refine z_iload_1 dX7_group_149 ?_
      refine z_if_eq (tgt := 162) dX7_group_150 (by decide) (by omega) (fun c150 => by exfalso; omega) (fun c150 => ?_)
      refine z_aload_0 dX7_group_153 ?_
      refine z_getI (j := 3) dX7_group_154 zf_X7_79 rfl rfl ?_
      refine z_top (b := σ.1 0 3) (zsB_F.trans zsF_eq) ?_
      have w3 : zR (σ.1 0 3) := hR.1 0 3
      refine z_iconst 1 dX7_group_157 rfl ?_
      refine z_iadd dX7_group_158 ?_
      refine z_goto (tgt := 166) dX7_group_159 (by decide) ?_
      refine z_putI (j := 3) dX7_group_166 zp_X7_79 rfl rfl (by omega) ?_
      refine z_aload_0 dX7_group_169 ?_
      refine z_getI (j := 3) dX7_group_170 zf_X7_79 rfl rfl ?_
      refine z_top (b := ((σ.1 0 3) + 1)) zsF_eq ?_
      refine z_iret dX7_group_173 rfl ?_
      exact h1 (by omega) (by omega) _ ⟨fun i j hj => by
    show (if i = 0 ∧ j = 3 then σ.1 0 3 + 1 else if i = 0 ∧ j = 3 then σ.1 0 3 else if i = 0 ∧ j = 0 then 0 else σ.1 i j) = (if i = 0 ∧ j = 3 then σ.1 0 3 + 1 else σ.1 i j)
    by_cases q : i = 0 ∧ j = 3
    · rw [if_pos q, if_pos q]
    · rw [if_neg q, if_neg q, if_neg q, if_neg (fun e => hj ⟨e.1, Or.inl e.2⟩)], fun _ => rfl⟩
    · refine z_bipush (-4) dX7_group_32 (by decide +kernel) ?_
      refine z_iret dX7_group_34 rfl ?_
      exact zPq (h4 (by omega) (by omega)) rfl (eqM.jF (by unfold zJ; omega) eqM.rfl')
  · refine z_aload_0 dX7_group_9 ?_
    refine z_getI (j := 3) dX7_group_10 zf_X7_79 rfl rfl ?_
    refine z_top (b := σ.1 0 3) (zsF_ne (by omega)) ?_
    have w4 : zR (σ.1 0 3) := hR.1 0 3
    refine z_if_ne (tgt := 19) dX7_group_13 (by decide) (by omega) (fun c13 => ?_) (fun c13 => ?_)
    · refine z_iload_1 dX7_group_19 ?_
      refine z_if_eq (tgt := 35) dX7_group_20 (by decide) (by omega) (fun c20 => ?_) (fun c20 => by exfalso; omega)
      refine z_aload_0 dX7_group_35 ?_
      refine z_iload_1 dX7_group_36 ?_
      refine z_if_eq (tgt := 47) dX7_group_37 (by decide) (by omega) (fun c37 => ?_) (fun c37 => by exfalso; omega)
      refine z_aload_0 dX7_group_47 ?_
      refine z_getI (j := 3) dX7_group_48 zf_X7_79 rfl rfl ?_
      refine z_top (b := σ.1 0 3) (zsF_ne (by omega)) ?_
      have w5 : zR (σ.1 0 3) := hR.1 0 3
      refine z_iconst 1 dX7_group_51 rfl ?_
      refine z_isub dX7_group_52 ?_
      refine z_putI (j := 3) dX7_group_53 zp_X7_79 rfl rfl (by omega) ?_
      refine z_iconst 0 dX7_group_56 rfl ?_
      refine z_istore_2 dX7_group_57 (Nat.le_of_ble_eq_true rfl) rfl ?_
      have e0 : (zsF (zsF σ 0 0 0) 0 3 (σ.1 0 3 - 1)).1 0 3 = σ.1 0 3 - 1 := zsF_eq
      refine z_st zsB_0.symm (L_X7_grp0 (σ := zsF (zsF σ 0 0 0) 0 3 (σ.1 0 3 - 1)) b (zRg.F (zRg.F hR (by omega)) (by omega)) hb (by omega) (by omega) (by omega) ?_ 256 0 (by omega) (by omega))
      rw [e0]
      refine z_aload_0 dX7_group_148 ?_
      refine z_iload_1 dX7_group_149 ?_
      refine z_if_eq (tgt := 162) dX7_group_150 (by decide) (by omega) (fun c150 => ?_) (fun c150 => by exfalso; omega)
      refine z_aload_0 dX7_group_162 ?_
      refine z_getI (j := 3) dX7_group_163 zf_X7_79 rfl rfl ?_
      refine z_top (b := ((σ.1 0 3) - 1)) (zsB_F.trans zsF_eq) ?_
      refine z_putI (j := 3) dX7_group_166 zp_X7_79 rfl rfl (by omega) ?_
      refine z_aload_0 dX7_group_169 ?_
      refine z_getI (j := 3) dX7_group_170 zf_X7_79 rfl rfl ?_
      refine z_top (b := ((σ.1 0 3) - 1)) zsF_eq ?_
      refine z_iret dX7_group_173 rfl ?_
      exact h2 (by omega) (by omega) _ ⟨fun i j hj => by
    show (if i = 0 ∧ j = 3 then σ.1 0 3 - 1 else if i = 0 ∧ j = 3 then σ.1 0 3 - 1 else if i = 0 ∧ j = 0 then 0 else σ.1 i j) = (if i = 0 ∧ j = 3 then σ.1 0 3 - 1 else σ.1 i j)
    by_cases q : i = 0 ∧ j = 3
    · rw [if_pos q, if_pos q]
    · rw [if_neg q, if_neg q, if_neg q, if_neg (fun e => hj ⟨e.1, Or.inl e.2⟩)], fun _ => rfl⟩
    · refine z_bipush (-3) dX7_group_16 (by decide +kernel) ?_
      refine z_iret dX7_group_18 rfl ?_
      exact zPq (h3 (by omega) (by omega)) rfl (eqM.jF (by unfold zJ; omega) eqM.rfl')

set_option maxRecDepth 100000 in
theorem M_X7_endSign {G : zG} {σ : zSt} {Post : Option Value → zSt → Prop} {N : Int} (hI : zInv N σ) (hN : N ≤ 2000000000) (c : Int) (hc : zR c) (h1 : -1 ≤ c → c < 256 → ∀ σ2, eqM σ2 (zsF σ 0 5 c) → Post (some (.int (zI 1))) σ2) (h0 : c < -1 ∨ 256 ≤ c → ∀ σ2, eqM σ2 σ → Post (some (.int (zI (-2)))) σ2) : zV G shM mX7_endSign 0 (zini 2 [.ref (zad G 0), .int (zI c)]) [] σ Post := by
  refine z_rg (fun hR => ?_)
  refine z_lv (lv' := [some (.ref (zad G 0)), some (.int (zI c))]) rfl ?_
  obtain ⟨hgr, hfi, hle, hto, hna, hes, htl, hbg, hca, hsa, hme, hlc, hln, hsg, hrw, hnl, hns, hwd, hlv, hlf, hdi, htk⟩ := hI
  refine z_aload_0 dX7_endSign_0 ?_
  refine z_iconst 0 dX7_endSign_1 rfl ?_
  refine z_putI (j := 0) dX7_endSign_2 zp_X7_72 rfl rfl ⟨by decide, by decide⟩ ?_
  refine z_iload_1 dX7_endSign_5 ?_
  refine z_iconst (-1) dX7_endSign_6 rfl ?_
  refine z_icmp_eq (tgt := 20) dX7_endSign_7 (by decide) (by omega) ⟨by decide, by decide⟩ (fun c7 => ?_) (fun c7 => ?_)
  · refine z_aload_0 dX7_endSign_20 ?_
    refine z_iload_1 dX7_endSign_21 ?_
    refine z_putI (j := 5) dX7_endSign_22 zp_X7_20 rfl rfl (by omega) ?_
    refine z_iconst 1 dX7_endSign_25 rfl ?_
    refine z_iret dX7_endSign_26 rfl ?_
    exact zPq (h1 (by omega) (by omega)) rfl (eqM.F (eqM.jF (by unfold zJ; omega) eqM.rfl'))
  · refine z_iload_1 dX7_endSign_10 ?_
    refine z_callS mX7_isSign [.int (zI c)] dX7_endSign_11 zk_X7_isSign zl_X7_75 ⟨Nat.le_of_ble_eq_true rfl, Nat.le_of_ble_eq_true rfl⟩ (Nat.le_of_ble_eq_true rfl) (Nat.le_of_ble_eq_true rfl) ?_
    refine M_X7_isSign c (by omega) (fun i1 i2 => ?_) (fun i1 => ?_)
    · refine z_b1 ?_
      refine z_if_ne (tgt := 20) dX7_endSign_14 (by decide) ⟨by decide, by decide⟩ (fun c14 => ?_) (fun c14 => by exfalso; omega)
      refine z_aload_0 dX7_endSign_20 ?_
      refine z_iload_1 dX7_endSign_21 ?_
      refine z_putI (j := 5) dX7_endSign_22 zp_X7_20 rfl rfl (by omega) ?_
      refine z_iconst 1 dX7_endSign_25 rfl ?_
      refine z_iret dX7_endSign_26 rfl ?_
      exact zPq (h1 (by omega) (by omega)) rfl (eqM.F (eqM.jF (by unfold zJ; omega) eqM.rfl'))
    · refine z_b1 ?_
      refine z_if_ne (tgt := 20) dX7_endSign_14 (by decide) ⟨by decide, by decide⟩ (fun c14 => by exfalso; omega) (fun c14 => ?_)
      refine z_bipush (-2) dX7_endSign_17 (by decide +kernel) ?_
      refine z_iret dX7_endSign_19 rfl ?_
      exact zPq (h0 (by omega)) rfl (eqM.jF (by unfold zJ; omega) eqM.rfl')

set_option maxRecDepth 100000 in
theorem M_X7_meaning {G : zG} {σ : zSt} {Post : Option Value → zSt → Prop} {N : Int} (hI : zInv N σ) (hN : N ≤ 2000000000) (s b : Int) (hs : zR s) (hb : b = 0 ∨ b = 1) (h1 : 0 ≤ s → s < 256 → ∀ σ2, eqM σ2 (zsA σ 3 s b) → Post (some (.int (zI 1))) σ2) (h0 : s < 0 ∨ 256 ≤ s → ∀ σ2, eqM σ2 σ → Post (some (.int (zI (-2)))) σ2) : zV G shM mX7_meaning 0 (zini 3 [.ref (zad G 0), .int (zI s), .int (zI b)]) [] σ Post := by
  refine z_rg (fun hR => ?_)
  refine z_lv (lv' := [some (.ref (zad G 0)), some (.int (zI s)), some (.int (zI b))]) rfl ?_
  obtain ⟨hgr, hfi, hle, hto, hna, hes, htl, hbg, hca, hsa, hme, hlc, hln, hsg, hrw, hnl, hns, hwd, hlv, hlf, hdi, htk⟩ := hI
  refine z_aload_0 dX7_meaning_0 ?_
  refine z_iconst 0 dX7_meaning_1 rfl ?_
  refine z_putI (j := 0) dX7_meaning_2 zp_X7_72 rfl rfl ⟨by decide, by decide⟩ ?_
  refine z_iload_1 dX7_meaning_5 ?_
  refine z_callS mX7_isSign [.int (zI s)] dX7_meaning_6 zk_X7_isSign zl_X7_75 ⟨Nat.le_of_ble_eq_true rfl, Nat.le_of_ble_eq_true rfl⟩ (Nat.le_of_ble_eq_true rfl) (Nat.le_of_ble_eq_true rfl) ?_
  refine M_X7_isSign s (by omega) (fun i1 i2 => ?_) (fun i1 => ?_)
  · refine z_b1 ?_
    refine z_if_ne (tgt := 15) dX7_meaning_9 (by decide) ⟨by decide, by decide⟩ (fun c9 => ?_) (fun c9 => by exfalso; omega)
    refine z_aload_0 dX7_meaning_15 ?_
    refine z_getR (j := 4) dX7_meaning_16 zf_X7_16 rfl rfl ?_
    refine z_iload_1 dX7_meaning_19 ?_
    refine z_iload_2 dX7_meaning_20 ?_
    refine z_zast dX7_meaning_21 rfl (by decide) (by omega) (by omega) (by omega) ?_
    refine z_iconst 1 dX7_meaning_22 rfl ?_
    refine z_iret dX7_meaning_23 rfl ?_
    exact zPq (h1 (by omega) (by omega)) rfl (eqM.A (eqM.jF (by unfold zJ; omega) eqM.rfl'))
  · refine z_b1 ?_
    refine z_if_ne (tgt := 15) dX7_meaning_9 (by decide) ⟨by decide, by decide⟩ (fun c9 => by exfalso; omega) (fun c9 => ?_)
    refine z_bipush (-2) dX7_meaning_12 (by decide +kernel) ?_
    refine z_iret dX7_meaning_14 rfl ?_
    exact zPq (h0 (by omega)) rfl (eqM.jF (by unfold zJ; omega) eqM.rfl')

set_option maxRecDepth 100000 in
theorem M_X7_file {G : zG} {σ : zSt} {Post : Option Value → zSt → Prop} {N : Int} (hI : zInv N σ) (hN : N ≤ 2000000000) (h1 : σ.1 0 6 < 8 → ∀ σ2, eqM σ2 (zsF σ 0 6 (σ.1 0 6 + 1)) → Post (some (.int (zI (σ.1 0 6)))) σ2) (h0 : σ.1 0 6 = 8 → ∀ σ2, eqM σ2 σ → Post (some (.int (zI (-4)))) σ2) : zV G shM mX7_file 0 (zini 1 [.ref (zad G 0)]) [] σ Post := by
  refine z_rg (fun hR => ?_)
  refine z_lv (lv' := [some (.ref (zad G 0))]) rfl ?_
  obtain ⟨hgr, hfi, hle, hto, hna, hes, htl, hbg, hca, hsa, hme, hlc, hln, hsg, hrw, hnl, hns, hwd, hlv, hlf, hdi, htk⟩ := hI
  refine z_aload_0 dX7_file_0 ?_
  refine z_iconst 0 dX7_file_1 rfl ?_
  refine z_putI (j := 0) dX7_file_2 zp_X7_72 rfl rfl ⟨by decide, by decide⟩ ?_
  refine z_aload_0 dX7_file_5 ?_
  refine z_getI (j := 6) dX7_file_6 zf_X7_82 rfl rfl ?_
  refine z_top (b := σ.1 0 6) (zsF_ne (by omega)) ?_
  have w1 : zR (σ.1 0 6) := hR.1 0 6
  refine z_bipush 8 dX7_file_9 (by decide +kernel) ?_
  refine z_icmp_ne (tgt := 17) dX7_file_11 (by decide) (by omega) ⟨by decide, by decide⟩ (fun c11 => ?_) (fun c11 => ?_)
  · refine z_aload_0 dX7_file_17 ?_
    refine z_dup dX7_file_18 rfl ?_
    refine z_getI (j := 6) dX7_file_19 zf_X7_82 rfl rfl ?_
    refine z_top (b := σ.1 0 6) (zsF_ne (by omega)) ?_
    have w2 : zR (σ.1 0 6) := hR.1 0 6
    refine z_iconst 1 dX7_file_22 rfl ?_
    refine z_iadd dX7_file_23 ?_
    refine z_putI (j := 6) dX7_file_24 zp_X7_82 rfl rfl (by omega) ?_
    refine z_aload_0 dX7_file_27 ?_
    refine z_getI (j := 6) dX7_file_28 zf_X7_82 rfl rfl ?_
    refine z_top (b := ((σ.1 0 6) + 1)) zsF_eq ?_
    refine z_iconst 1 dX7_file_31 rfl ?_
    refine z_isub dX7_file_32 ?_
    refine z_iret dX7_file_33 rfl ?_
    exact zPq (h1 (by omega)) (by omega) (eqM.F (eqM.jF (by unfold zJ; omega) eqM.rfl'))
  · refine z_bipush (-4) dX7_file_14 (by decide +kernel) ?_
    refine z_iret dX7_file_16 rfl ?_
    exact zPq (h0 (by omega)) rfl (eqM.jF (by unfold zJ; omega) eqM.rfl')

set_option maxRecDepth 100000 in
theorem M_X7_line {G : zG} {σ : zSt} {Post : Option Value → zSt → Prop} {N : Int} (hI : zInv N σ) (hN : N ≤ 2000000000) (f : Int) (hf : zR f) (hm : f < 0 ∨ σ.1 0 6 ≤ f → ∀ σ2, eqM σ2 σ → Post (some (.int (zI (-1)))) σ2) (h1 : 0 ≤ f → f < σ.1 0 6 → σ.2 4 f < 30 → ∀ σ2, eqM σ2 (zsA σ 4 f (σ.2 4 f + 1)) → Post (some (.int (zI (σ.2 4 f + 1)))) σ2) (h0 : 0 ≤ f → f < σ.1 0 6 → 30 ≤ σ.2 4 f → ∀ σ2, eqM σ2 σ → Post (some (.int (zI (-4)))) σ2) : zV G shM mX7_line 0 (zini 2 [.ref (zad G 0), .int (zI f)]) [] σ Post := by
  refine z_rg (fun hR => ?_)
  refine z_lv (lv' := [some (.ref (zad G 0)), some (.int (zI f))]) rfl ?_
  obtain ⟨hgr, hfi, hle, hto, hna, hes, htl, hbg, hca, hsa, hme, hlc, hln, hsg, hrw, hnl, hns, hwd, hlv, hlf, hdi, htk⟩ := hI
  have hlc1 := hlc f
  refine z_aload_0 dX7_line_0 ?_
  refine z_iconst 0 dX7_line_1 rfl ?_
  refine z_putI (j := 0) dX7_line_2 zp_X7_72 rfl rfl ⟨by decide, by decide⟩ ?_
  refine z_aload_0 dX7_line_5 ?_
  refine z_iload_1 dX7_line_6 ?_
  refine z_callV mX7_isFile [.int (zI f)] dX7_line_7 zk_X7_isFile zl_X7_85 ⟨Nat.le_of_ble_eq_true rfl, Nat.le_of_ble_eq_true rfl⟩ rfl rfl (Nat.le_of_ble_eq_true rfl) (Nat.le_of_ble_eq_true rfl) ?_
  refine M_X7_isFile f (by omega) (fun i1 i2 => ?_) (fun i1 => ?_)
  · refine z_b1 ?_
    have e1 : (zsF σ 0 0 0).1 0 6 = σ.1 0 6 := (zsF_ne (by omega))
    refine z_if_ne (tgt := 15) dX7_line_10 (by decide) ⟨by decide, by decide⟩ (fun c10 => ?_) (fun c10 => by exfalso; omega)
    refine z_aload_0 dX7_line_15 ?_
    refine z_getR (j := 7) dX7_line_16 zf_X7_24 rfl rfl ?_
    refine z_iload_1 dX7_line_19 ?_
    refine z_iald dX7_line_20 rfl (by decide) (by omega) (by omega) ?_
    refine z_top (b := σ.2 4 f) zsF_A ?_
    have w3 : zR (σ.2 4 f) := hR.2 4 f
    refine z_bipush 30 dX7_line_21 (by decide +kernel) ?_
    refine z_icmp_ne (tgt := 29) dX7_line_23 (by decide) (by omega) ⟨by decide, by decide⟩ (fun c23 => ?_) (fun c23 => ?_)
    · refine z_aload_0 dX7_line_29 ?_
      refine z_getR (j := 7) dX7_line_30 zf_X7_24 rfl rfl ?_
      refine z_iload_1 dX7_line_33 ?_
      refine z_dup2 dX7_line_34 rfl rfl ?_
      refine z_iald dX7_line_35 rfl (by decide) (by omega) (by omega) ?_
      refine z_top (b := σ.2 4 f) zsF_A ?_
      have w4 : zR (σ.2 4 f) := hR.2 4 f
      refine z_iconst 1 dX7_line_36 rfl ?_
      refine z_iadd dX7_line_37 ?_
      refine z_iast dX7_line_38 rfl (by decide) (by omega) (by omega) (by omega) ?_
      refine z_aload_0 dX7_line_39 ?_
      refine z_getR (j := 7) dX7_line_40 zf_X7_24 rfl rfl ?_
      refine z_iload_1 dX7_line_43 ?_
      refine z_iald dX7_line_44 rfl (by decide) (by omega) (by omega) ?_
      refine z_top (b := ((σ.2 4 f) + 1)) zsA_eq ?_
      refine z_iret dX7_line_45 rfl ?_
      exact zPq (h1 (by omega) (by omega) (by omega)) rfl (eqM.A (eqM.jF (by unfold zJ; omega) eqM.rfl'))
    · refine z_bipush (-4) dX7_line_26 (by decide +kernel) ?_
      refine z_iret dX7_line_28 rfl ?_
      exact zPq (h0 (by omega) (by omega) (by omega)) rfl (eqM.jF (by unfold zJ; omega) eqM.rfl')
  · refine z_b1 ?_
    have e2 : (zsF σ 0 0 0).1 0 6 = σ.1 0 6 := (zsF_ne (by omega))
    refine z_if_ne (tgt := 15) dX7_line_10 (by decide) ⟨by decide, by decide⟩ (fun c10 => by exfalso; omega) (fun c10 => ?_)
    refine z_iconst (-1) dX7_line_13 rfl ?_
    refine z_iret dX7_line_14 rfl ?_
    exact zPq (hm (by omega)) rfl (eqM.jF (by unfold zJ; omega) eqM.rfl')

def zbm (x : Int64) (n i : Int) : Int := (((x >>> ((zI (8 * (n - 1 - i))).toInt64 &&& 63)) &&& 255).toInt32).toInt
theorem zsA_ov {σ : zSt} {i k : Nat} {z w a v b : Int} (h : i ≠ k) : zsA (zsA (zsA σ i z a) k w v) i z b = zsA (zsA σ k w v) i z b := by
  refine Prod.ext rfl (funext fun p => funext fun q => ?_)
  show (if p = i ∧ q = z then b else if p = k ∧ q = w then v else if p = i ∧ q = z then a else σ.2 p q) = (if p = i ∧ q = z then b else if p = k ∧ q = w then v else σ.2 p q)
  by_cases h1 : p = i ∧ q = z
  · rw [if_pos h1, if_pos h1]
  · rw [if_neg h1, if_neg h1, if_neg h1]

set_option maxRecDepth 100000 in
theorem L_X7_add {G : zG} {σ : zSt} {Post : Option Value → zSt → Prop} (f n row len : Int) (x : Int64) (hR : zRg σ) (hf : zR f) (hn1 : 1 ≤ n) (hn8 : n ≤ 8) (hr0 : 0 ≤ row) (hr1 : row < 240) (hl0 : 0 ≤ len) (hl1 : len + n ≤ 120) (h : Post (some (.int (zI (len + n)))) (zsA (zsB σ 6 (120 * row + len) n (zbm x n)) 5 row (len + n))) : ∀ (m : Nat) (k i : Int) (hk : k = n - 1 - i) (hi0 : 0 ≤ i) (him : i + m = n), zV G shM mX7_add 82 [some (.ref (zad G 0)), some (.int (zI f)), some (.long x), none, some (.int (zI n)), some (.int (zI row)), some (.int (zI k))] [] (zsA (zsB σ 6 (120 * row + len) i (zbm x n)) 5 row (len + i)) Post := by
  intro m
  induction m with
  | zero =>
    intro k i hk hi0 him
    refine z_iload_6 dX7_add_82 ?_
    refine z_if_lt (tgt := 134) dX7_add_84 (by decide) (by omega) (fun c84 => ?_) (fun c84 => by exfalso; omega)
    refine z_aload_0 dX7_add_134 ?_
    refine z_getR (j := 8) dX7_add_135 zf_X7_27 rfl rfl ?_
    refine z_iload_5 dX7_add_138 ?_
    refine z_iald dX7_add_140 rfl (by decide) (by omega) (by omega) ?_
    refine z_top (b := (len + i)) zsA_eq ?_
    refine z_iret dX7_add_141 rfl ?_
    have e : i = n := by omega
    subst e
    exact h
  | succ m ih =>
    intro k i hk hi0 him
    refine z_iload_6 dX7_add_82 ?_
    refine z_if_lt (tgt := 134) dX7_add_84 (by decide) (by omega) (fun c84 => by exfalso; omega) (fun c84 => ?_)
    refine z_aload_0 dX7_add_87 ?_
    refine z_getR (j := 9) dX7_add_88 zf_X7_30 rfl rfl ?_
    refine z_bipush 120 dX7_add_91 (by decide +kernel) ?_
    refine z_iload_5 dX7_add_93 ?_
    refine z_imul dX7_add_95 ?_
    refine z_aload_0 dX7_add_96 ?_
    refine z_getR (j := 8) dX7_add_97 zf_X7_27 rfl rfl ?_
    refine z_iload_5 dX7_add_100 ?_
    refine z_iald dX7_add_102 rfl (by decide) (by omega) (by omega) ?_
    refine z_top (b := (len + i)) zsA_eq ?_
    refine z_iadd dX7_add_103 ?_
    refine z_lloadN (i := 2) dX7_add_104 rfl rfl ?_
    refine z_bipush 8 dX7_add_105 (by decide +kernel) ?_
    refine z_iload_6 dX7_add_107 ?_
    refine z_imul dX7_add_109 ?_
    refine z_lshr dX7_add_110 ?_
    refine z_ldc2 255 dX7_add_111 zk_X7_88 ?_
    refine z_land dX7_add_114 ?_
    refine z_l2i dX7_add_115 ?_
    refine z_raw2 ?_
    have w1 := zR_toInt (((x >>> ((zI (8 * k)).toInt64 &&& 63)) &&& 255).toInt32)
    refine z_iast dX7_add_116 rfl (by decide) (by omega) (by omega) (by omega) ?_
    refine z_aload_0 dX7_add_117 ?_
    refine z_getR (j := 8) dX7_add_118 zf_X7_27 rfl rfl ?_
    refine z_iload_5 dX7_add_121 ?_
    refine z_dup2 dX7_add_123 rfl rfl ?_
    refine z_iald dX7_add_124 rfl (by decide) (by omega) (by omega) ?_
    refine z_top (b := (len + i)) ((zsA_ne1 (by omega)).trans zsA_eq) ?_
    refine z_iconst 1 dX7_add_125 rfl ?_
    refine z_iadd dX7_add_126 ?_
    refine z_iast dX7_add_127 rfl (by decide) (by omega) (by omega) (by omega) ?_
    refine z_iinc_6 dX7_add_128 (Nat.le_of_ble_eq_true rfl) rfl ?_
    refine z_goto (tgt := 82) dX7_add_131 (by decide) ?_
    refine z_st ((zsA_ov (by decide)).trans (congrArg (fun q => zsA q 5 row (len + i + 1)) (zsB_S (z := 120 * row + (len + i)) hi0 (by omega) (by unfold zbm; rw [hk])))) ?_
    have e9 : len + i + 1 = len + (i + 1) := by omega
    rw [e9]
    exact ih (k + (-1)) (i + 1) (by omega) (by omega) (by omega)

set_option maxRecDepth 100000 in
theorem M_X7_add {G : zG} {σ : zSt} {Post : Option Value → zSt → Prop} {N : Int} (hI : zInv N σ) (hN : N ≤ 2000000000) (f n : Int) (x : Int64) (hf : zR f) (hn : zR n) (hm : f < 0 ∨ σ.1 0 6 ≤ f → ∀ σ2, eqM σ2 σ → Post (some (.int (zI (-1)))) σ2) (h2 : 0 ≤ f → f < σ.1 0 6 → n < 1 ∨ 8 < n → ∀ σ2, eqM σ2 σ → Post (some (.int (zI (-2)))) σ2) (h3 : 0 ≤ f → f < σ.1 0 6 → 1 ≤ n → n ≤ 8 → σ.2 4 f = 0 → ∀ σ2, eqM σ2 σ → Post (some (.int (zI (-3)))) σ2) (h4 : 0 ≤ f → f < σ.1 0 6 → 1 ≤ n → n ≤ 8 → 0 < σ.2 4 f → 120 < σ.2 5 (30 * f + σ.2 4 f - 1) + n → ∀ σ2, eqM σ2 σ → Post (some (.int (zI (-4)))) σ2) (h1 : 0 ≤ f → f < σ.1 0 6 → 1 ≤ n → n ≤ 8 → 0 < σ.2 4 f → σ.2 5 (30 * f + σ.2 4 f - 1) + n ≤ 120 → ∀ σ2, eqM σ2 (zsA (zsB σ 6 (120 * (30 * f + σ.2 4 f - 1) + σ.2 5 (30 * f + σ.2 4 f - 1)) n (zbm x n)) 5 (30 * f + σ.2 4 f - 1) (σ.2 5 (30 * f + σ.2 4 f - 1) + n)) → Post (some (.int (zI (σ.2 5 (30 * f + σ.2 4 f - 1) + n)))) σ2) : zV G shM mX7_add 0 (zini 7 [.ref (zad G 0), .int (zI f), .long x, .int (zI n)]) [] σ Post := by
  refine z_rg (fun hR => ?_)
  refine z_lv (lv' := [some (.ref (zad G 0)), some (.int (zI f)), some (.long x), none, some (.int (zI n)), none, none]) rfl ?_
  obtain ⟨hgr, hfi, hle, hto, hna, hes, htl, hbg, hca, hsa, hme, hlc, hln, hsg, hrw, hnl, hns, hwd, hlv, hlf, hdi, htk⟩ := hI
  have hlc1 := hlc f
  have hln1 := hln (30 * f + σ.2 4 f - 1)
  refine z_aload_0 dX7_add_0 ?_
  refine z_iconst 0 dX7_add_1 rfl ?_
  refine z_putI (j := 0) dX7_add_2 zp_X7_72 rfl rfl ⟨by decide, by decide⟩ ?_
  refine z_aload_0 dX7_add_5 ?_
  refine z_iload_1 dX7_add_6 ?_
  refine z_callV mX7_isFile [.int (zI f)] dX7_add_7 zk_X7_isFile zl_X7_85 ⟨Nat.le_of_ble_eq_true rfl, Nat.le_of_ble_eq_true rfl⟩ rfl rfl (Nat.le_of_ble_eq_true rfl) (Nat.le_of_ble_eq_true rfl) ?_
  refine M_X7_isFile f (by omega) (fun i1 i2 => ?_) (fun i1 => ?_)
  · refine z_b1 ?_
    have e1 : (zsF σ 0 0 0).1 0 6 = σ.1 0 6 := (zsF_ne (by omega))
    refine z_if_ne (tgt := 15) dX7_add_10 (by decide) ⟨by decide, by decide⟩ (fun c10 => ?_) (fun c10 => by exfalso; omega)
    refine z_iload_4 dX7_add_15 ?_
    refine z_iconst 1 dX7_add_17 rfl ?_
    refine z_icmp_lt (tgt := 28) dX7_add_18 (by decide) (by omega) ⟨by decide, by decide⟩ (fun c18 => ?_) (fun c18 => ?_)
    · refine z_bipush (-2) dX7_add_28 (by decide +kernel) ?_
      refine z_iret dX7_add_30 rfl ?_
      exact zPq (h2 (by omega) (by omega) (by omega)) rfl (eqM.jF (by unfold zJ; omega) eqM.rfl')
    · refine z_iload_4 dX7_add_21 ?_
      refine z_bipush 8 dX7_add_23 (by decide +kernel) ?_
      refine z_icmp_le (tgt := 31) dX7_add_25 (by decide) (by omega) ⟨by decide, by decide⟩ (fun c25 => ?_) (fun c25 => ?_)
      · refine z_aload_0 dX7_add_31 ?_
        refine z_getR (j := 7) dX7_add_32 zf_X7_24 rfl rfl ?_
        refine z_iload_1 dX7_add_35 ?_
        refine z_iald dX7_add_36 rfl (by decide) (by omega) (by omega) ?_
        refine z_top (b := σ.2 4 f) zsF_A ?_
        have w3 : zR (σ.2 4 f) := hR.2 4 f
        refine z_if_ne (tgt := 43) dX7_add_37 (by decide) (by omega) (fun c37 => ?_) (fun c37 => ?_)
        · refine z_bipush 30 dX7_add_43 (by decide +kernel) ?_
          refine z_iload_1 dX7_add_45 ?_
          refine z_imul dX7_add_46 ?_
          refine z_aload_0 dX7_add_47 ?_
          refine z_getR (j := 7) dX7_add_48 zf_X7_24 rfl rfl ?_
          refine z_iload_1 dX7_add_51 ?_
          refine z_iald dX7_add_52 rfl (by decide) (by omega) (by omega) ?_
          refine z_top (b := σ.2 4 f) zsF_A ?_
          have w4 : zR (σ.2 4 f) := hR.2 4 f
          refine z_iadd dX7_add_53 ?_
          refine z_iconst 1 dX7_add_54 rfl ?_
          refine z_isub dX7_add_55 ?_
          refine z_istore_5 dX7_add_56 (Nat.le_of_ble_eq_true rfl) rfl ?_
          refine z_aload_0 dX7_add_58 ?_
          refine z_getR (j := 8) dX7_add_59 zf_X7_27 rfl rfl ?_
          refine z_iload_5 dX7_add_62 ?_
          refine z_iald dX7_add_64 rfl (by decide) (by omega) (by omega) ?_
          refine z_top (b := σ.2 5 (((30 * f) + (σ.2 4 f)) - 1)) zsF_A ?_
          have w5 : zR (σ.2 5 (((30 * f) + (σ.2 4 f)) - 1)) := hR.2 5 (((30 * f) + (σ.2 4 f)) - 1)
          refine z_iload_4 dX7_add_65 ?_
          refine z_iadd dX7_add_67 ?_
          refine z_bipush 120 dX7_add_68 (by decide +kernel) ?_
          refine z_icmp_le (tgt := 76) dX7_add_70 (by decide) (by omega) ⟨by decide, by decide⟩ (fun c70 => ?_) (fun c70 => ?_)
          · refine z_iload_4 dX7_add_76 ?_
            refine z_iconst 1 dX7_add_78 rfl ?_
            refine z_isub dX7_add_79 ?_
            refine z_istore_6 dX7_add_80 (Nat.le_of_ble_eq_true rfl) rfl ?_
            refine z_st (zsB_0 (c := 6) (b := 120 * (30 * f + σ.2 4 f - 1) + σ.2 5 (30 * f + σ.2 4 f - 1)) (g := zbm x n)).symm ?_
            refine z_st (zsA_id (i := 5) (z := 30 * f + σ.2 4 f - 1) (x := σ.2 5 (30 * f + σ.2 4 f - 1) + 0) (by rw [Int.add_zero]; exact (zsB_ne1 (by omega)).trans zsF_A)).symm ?_
            exact L_X7_add f n (30 * f + σ.2 4 f - 1) (σ.2 5 (30 * f + σ.2 4 f - 1)) x (zRg.F hR (by omega)) hf (by omega) (by omega) (by omega) (by omega) (by omega) (by omega) (h1 (by omega) (by omega) (by omega) (by omega) (by omega) (by omega) _ (eqM.A (eqM.B (eqM.jF (by unfold zJ; omega) eqM.rfl')))) n.toNat (n - 1) 0 (by omega) (by omega) (by omega)
          · refine z_bipush (-4) dX7_add_73 (by decide +kernel) ?_
            refine z_iret dX7_add_75 rfl ?_
            exact zPq (h4 (by omega) (by omega) (by omega) (by omega) (by omega) (by omega)) rfl (eqM.jF (by unfold zJ; omega) eqM.rfl')
        · refine z_bipush (-3) dX7_add_40 (by decide +kernel) ?_
          refine z_iret dX7_add_42 rfl ?_
          exact zPq (h3 (by omega) (by omega) (by omega) (by omega) (by omega)) rfl (eqM.jF (by unfold zJ; omega) eqM.rfl')
      · refine z_bipush (-2) dX7_add_28 (by decide +kernel) ?_
        refine z_iret dX7_add_30 rfl ?_
        exact zPq (h2 (by omega) (by omega) (by omega)) rfl (eqM.jF (by unfold zJ; omega) eqM.rfl')
  · refine z_b1 ?_
    have e2 : (zsF σ 0 0 0).1 0 6 = σ.1 0 6 := (zsF_ne (by omega))
    refine z_if_ne (tgt := 15) dX7_add_10 (by decide) ⟨by decide, by decide⟩ (fun c10 => by exfalso; omega) (fun c10 => ?_)
    refine z_iconst (-1) dX7_add_13 rfl ?_
    refine z_iret dX7_add_14 rfl ?_
    exact zPq (hm (by omega)) rfl (eqM.jF (by unfold zJ; omega) eqM.rfl')

set_option maxRecDepth 100000 in
theorem M_X7_open {G : zG} {σ : zSt} {Post : Option Value → zSt → Prop} {N : Int} (hI : zInv N σ) (hN : N ≤ 2000000000) (f : Int) (hf : zR f) (hm : f < 0 ∨ σ.1 0 6 ≤ f → ∀ σ2, eqM σ2 σ → Post (some (.int (zI (-1)))) σ2) (h4 : 0 ≤ f → f < σ.1 0 6 → σ.1 0 10 = 6 → ∀ σ2, eqM σ2 σ → Post (some (.int (zI (-4)))) σ2) (h1 : 0 ≤ f → f < σ.1 0 6 → σ.1 0 10 < 6 → ∀ σ2, eqM σ2 (zsF (zsA (zsA (zsA (zsA σ 7 (σ.1 0 10) f) 8 (σ.1 0 10) (-1)) 12 (σ.1 0 10) (-1)) 13 (σ.1 0 10) 0) 0 10 (σ.1 0 10 + 1)) → Post (some (.int (zI (σ.1 0 10 + 1)))) σ2) : zV G shM mX7_open 0 (zini 2 [.ref (zad G 0), .int (zI f)]) [] σ Post := by
  refine z_rg (fun hR => ?_)
  refine z_lv (lv' := [some (.ref (zad G 0)), some (.int (zI f))]) rfl ?_
  obtain ⟨hgr, hfi, hle, hto, hna, hes, htl, hbg, hca, hsa, hme, hlc, hln, hsg, hrw, hnl, hns, hwd, hlv, hlf, hdi, htk⟩ := hI
  refine z_aload_0 dX7_open_0 ?_
  refine z_iconst 0 dX7_open_1 rfl ?_
  refine z_putI (j := 0) dX7_open_2 zp_X7_72 rfl rfl ⟨by decide, by decide⟩ ?_
  refine z_aload_0 dX7_open_5 ?_
  refine z_iload_1 dX7_open_6 ?_
  refine z_callV mX7_isFile [.int (zI f)] dX7_open_7 zk_X7_isFile zl_X7_85 ⟨Nat.le_of_ble_eq_true rfl, Nat.le_of_ble_eq_true rfl⟩ rfl rfl (Nat.le_of_ble_eq_true rfl) (Nat.le_of_ble_eq_true rfl) ?_
  refine M_X7_isFile f (by omega) (fun i1 i2 => ?_) (fun i1 => ?_)
  · refine z_b1 ?_
    have e1 : (zsF σ 0 0 0).1 0 6 = σ.1 0 6 := (zsF_ne (by omega))
    refine z_if_ne (tgt := 15) dX7_open_10 (by decide) ⟨by decide, by decide⟩ (fun c10 => ?_) (fun c10 => by exfalso; omega)
    refine z_aload_0 dX7_open_15 ?_
    refine z_getI (j := 10) dX7_open_16 zf_X7_90 rfl rfl ?_
    refine z_top (b := σ.1 0 10) (zsF_ne (by omega)) ?_
    have w3 : zR (σ.1 0 10) := hR.1 0 10
    refine z_bipush 6 dX7_open_19 (by decide +kernel) ?_
    refine z_icmp_ne (tgt := 27) dX7_open_21 (by decide) (by omega) ⟨by decide, by decide⟩ (fun c21 => ?_) (fun c21 => ?_)
    · refine z_aload_0 dX7_open_27 ?_
      refine z_getR (j := 11) dX7_open_28 zf_X7_33 rfl rfl ?_
      refine z_aload_0 dX7_open_31 ?_
      refine z_getI (j := 10) dX7_open_32 zf_X7_90 rfl rfl ?_
      refine z_top (b := σ.1 0 10) (zsF_ne (by omega)) ?_
      have w4 : zR (σ.1 0 10) := hR.1 0 10
      refine z_iload_1 dX7_open_35 ?_
      refine z_iast dX7_open_36 rfl (by decide) (by omega) (by omega) (by omega) ?_
      refine z_aload_0 dX7_open_37 ?_
      refine z_getR (j := 12) dX7_open_38 zf_X7_36 rfl rfl ?_
      refine z_aload_0 dX7_open_41 ?_
      refine z_getI (j := 10) dX7_open_42 zf_X7_90 rfl rfl ?_
      refine z_top (b := σ.1 0 10) (zsA_F.trans (zsF_ne (by omega))) ?_
      have w5 : zR (σ.1 0 10) := hR.1 0 10
      refine z_iconst (-1) dX7_open_45 rfl ?_
      refine z_iast dX7_open_46 rfl (by decide) (by omega) (by omega) ⟨by decide, by decide⟩ ?_
      refine z_aload_0 dX7_open_47 ?_
      refine z_getR (j := 16) dX7_open_48 zf_X7_48 rfl rfl ?_
      refine z_aload_0 dX7_open_51 ?_
      refine z_getI (j := 10) dX7_open_52 zf_X7_90 rfl rfl ?_
      refine z_top (b := σ.1 0 10) (zsA_F.trans (zsA_F.trans (zsF_ne (by omega)))) ?_
      have w6 : zR (σ.1 0 10) := hR.1 0 10
      refine z_iconst (-1) dX7_open_55 rfl ?_
      refine z_iast dX7_open_56 rfl (by decide) (by omega) (by omega) ⟨by decide, by decide⟩ ?_
      refine z_aload_0 dX7_open_57 ?_
      refine z_getR (j := 17) dX7_open_58 zf_X7_51 rfl rfl ?_
      refine z_aload_0 dX7_open_61 ?_
      refine z_getI (j := 10) dX7_open_62 zf_X7_90 rfl rfl ?_
      refine z_top (b := σ.1 0 10) (zsA_F.trans (zsA_F.trans (zsA_F.trans (zsF_ne (by omega))))) ?_
      have w7 : zR (σ.1 0 10) := hR.1 0 10
      refine z_iconst 0 dX7_open_65 rfl ?_
      refine z_zast dX7_open_66 rfl (by decide) (by omega) (by omega) (by omega) ?_
      refine z_aload_0 dX7_open_67 ?_
      refine z_dup dX7_open_68 rfl ?_
      refine z_getI (j := 10) dX7_open_69 zf_X7_90 rfl rfl ?_
      refine z_top (b := σ.1 0 10) (zsA_F.trans (zsA_F.trans (zsA_F.trans (zsA_F.trans (zsF_ne (by omega)))))) ?_
      have w8 : zR (σ.1 0 10) := hR.1 0 10
      refine z_iconst 1 dX7_open_72 rfl ?_
      refine z_iadd dX7_open_73 ?_
      refine z_putI (j := 10) dX7_open_74 zp_X7_90 rfl rfl (by omega) ?_
      refine z_aload_0 dX7_open_77 ?_
      refine z_getI (j := 10) dX7_open_78 zf_X7_90 rfl rfl ?_
      refine z_top (b := ((σ.1 0 10) + 1)) zsF_eq ?_
      refine z_iret dX7_open_81 rfl ?_
      exact zPq (h1 (by omega) (by omega) (by omega)) rfl (eqM.F (eqM.A (eqM.A (eqM.A (eqM.A (eqM.jF (by unfold zJ; omega) eqM.rfl'))))))
    · refine z_bipush (-4) dX7_open_24 (by decide +kernel) ?_
      refine z_iret dX7_open_26 rfl ?_
      exact zPq (h4 (by omega) (by omega) (by omega)) rfl (eqM.jF (by unfold zJ; omega) eqM.rfl')
  · refine z_b1 ?_
    have e2 : (zsF σ 0 0 0).1 0 6 = σ.1 0 6 := (zsF_ne (by omega))
    refine z_if_ne (tgt := 15) dX7_open_10 (by decide) ⟨by decide, by decide⟩ (fun c10 => by exfalso; omega) (fun c10 => ?_)
    refine z_iconst (-1) dX7_open_13 rfl ?_
    refine z_iret dX7_open_14 rfl ?_
    exact zPq (hm (by omega)) rfl (eqM.jF (by unfold zJ; omega) eqM.rfl')

set_option maxRecDepth 100000 in
theorem M_X7_close {G : zG} {σ : zSt} {Post : Option Value → zSt → Prop} {N : Int} (hI : zInv N σ) (hN : N ≤ 2000000000) (h0 : σ.1 0 10 = 0 → ∀ σ2, eqM σ2 σ → Post (some (.int (zI (-3)))) σ2) (h1 : 0 < σ.1 0 10 → ∀ σ2, eqM σ2 (zsA σ 13 (σ.1 0 10 - 1) 1) → Post (some (.int (zI 1))) σ2) : zV G shM mX7_close 0 (zini 1 [.ref (zad G 0)]) [] σ Post := by
  refine z_rg (fun hR => ?_)
  refine z_lv (lv' := [some (.ref (zad G 0))]) rfl ?_
  obtain ⟨hgr, hfi, hle, hto, hna, hes, htl, hbg, hca, hsa, hme, hlc, hln, hsg, hrw, hnl, hns, hwd, hlv, hlf, hdi, htk⟩ := hI
  refine z_aload_0 dX7_close_0 ?_
  refine z_iconst 0 dX7_close_1 rfl ?_
  refine z_putI (j := 0) dX7_close_2 zp_X7_72 rfl rfl ⟨by decide, by decide⟩ ?_
  refine z_aload_0 dX7_close_5 ?_
  refine z_getI (j := 10) dX7_close_6 zf_X7_90 rfl rfl ?_
  refine z_top (b := σ.1 0 10) (zsF_ne (by omega)) ?_
  have w1 : zR (σ.1 0 10) := hR.1 0 10
  refine z_if_ne (tgt := 15) dX7_close_9 (by decide) (by omega) (fun c9 => ?_) (fun c9 => ?_)
  · refine z_aload_0 dX7_close_15 ?_
    refine z_getR (j := 17) dX7_close_16 zf_X7_51 rfl rfl ?_
    refine z_aload_0 dX7_close_19 ?_
    refine z_getI (j := 10) dX7_close_20 zf_X7_90 rfl rfl ?_
    refine z_top (b := σ.1 0 10) (zsF_ne (by omega)) ?_
    have w2 : zR (σ.1 0 10) := hR.1 0 10
    refine z_iconst 1 dX7_close_23 rfl ?_
    refine z_isub dX7_close_24 ?_
    refine z_iconst 1 dX7_close_25 rfl ?_
    refine z_zast dX7_close_26 rfl (by decide) (by omega) (by omega) (by omega) ?_
    refine z_iconst 1 dX7_close_27 rfl ?_
    refine z_iret dX7_close_28 rfl ?_
    exact zPq (h1 (by omega)) rfl (eqM.A (eqM.jF (by unfold zJ; omega) eqM.rfl'))
  · refine z_bipush (-3) dX7_close_12 (by decide +kernel) ?_
    refine z_iret dX7_close_14 rfl ?_
    exact zPq (h0 (by omega)) rfl (eqM.jF (by unfold zJ; omega) eqM.rfl')

set_option maxRecDepth 100000 in
theorem M_X7_name {G : zG} {σ : zSt} {Post : Option Value → zSt → Prop} {N : Int} (hI : zInv N σ) (hN : N ≤ 2000000000) (a k : Int) (ha : zR a) (hk : zR k) (h : ∀ σ2, eqM σ2 σ → Post (some (.int (zI (zns (σ.2 15) (σ.2 16) (σ.1 0 21) a k)))) σ2) : zV G shM mX7_name 0 (zini 3 [.ref (zad G 0), .int (zI a), .int (zI k)]) [] σ Post := by
  refine z_rg (fun hR => ?_)
  refine z_lv (lv' := [some (.ref (zad G 0)), some (.int (zI a)), some (.int (zI k))]) rfl ?_
  obtain ⟨hgr, hfi, hle, hto, hna, hes, htl, hbg, hca, hsa, hme, hlc, hln, hsg, hrw, hnl, hns, hwd, hlv, hlf, hdi, htk⟩ := hI
  have hnl1 := hnl a
  refine z_aload_0 dX7_name_0 ?_
  refine z_iconst 0 dX7_name_1 rfl ?_
  refine z_putI (j := 0) dX7_name_2 zp_X7_72 rfl rfl ⟨by decide, by decide⟩ ?_
  refine z_iload_1 dX7_name_5 ?_
  refine z_if_lt (tgt := 45) dX7_name_6 (by decide) (by omega) (fun c6 => ?_) (fun c6 => ?_)
  · refine z_iconst (-1) dX7_name_45 rfl ?_
    refine z_iret dX7_name_46 rfl ?_
    exact zPq (h) (if_neg (by omega)).symm (eqM.jF (by unfold zJ; omega) eqM.rfl')
  · refine z_iload_1 dX7_name_9 ?_
    refine z_aload_0 dX7_name_10 ?_
    refine z_getI (j := 21) dX7_name_11 zf_X7_69 rfl rfl ?_
    refine z_top (b := σ.1 0 21) (zsF_ne (by omega)) ?_
    have w1 : zR (σ.1 0 21) := hR.1 0 21
    refine z_icmp_ge (tgt := 45) dX7_name_14 (by decide) (by omega) (by omega) (fun c14 => ?_) (fun c14 => ?_)
    · refine z_iconst (-1) dX7_name_45 rfl ?_
      refine z_iret dX7_name_46 rfl ?_
      exact zPq (h) (if_neg (by omega)).symm (eqM.jF (by unfold zJ; omega) eqM.rfl')
    · refine z_iload_2 dX7_name_17 ?_
      refine z_if_lt (tgt := 45) dX7_name_18 (by decide) (by omega) (fun c18 => ?_) (fun c18 => ?_)
      · refine z_iconst (-1) dX7_name_45 rfl ?_
        refine z_iret dX7_name_46 rfl ?_
        exact zPq (h) (if_neg (by omega)).symm (eqM.jF (by unfold zJ; omega) eqM.rfl')
      · refine z_iload_2 dX7_name_21 ?_
        refine z_aload_0 dX7_name_22 ?_
        refine z_getR (j := 23) dX7_name_23 zf_X7_60 rfl rfl ?_
        refine z_iload_1 dX7_name_26 ?_
        refine z_iald dX7_name_27 rfl (by decide) (by omega) (by omega) ?_
        refine z_top (b := σ.2 16 a) zsF_A ?_
        have w2 : zR (σ.2 16 a) := hR.2 16 a
        refine z_icmp_ge (tgt := 45) dX7_name_28 (by decide) (by omega) (by omega) (fun c28 => ?_) (fun c28 => ?_)
        · refine z_iconst (-1) dX7_name_45 rfl ?_
          refine z_iret dX7_name_46 rfl ?_
          exact zPq (h) (if_neg (by omega)).symm (eqM.jF (by unfold zJ; omega) eqM.rfl')
        · refine z_aload_0 dX7_name_31 ?_
          refine z_getR (j := 22) dX7_name_32 zf_X7_57 rfl rfl ?_
          refine z_bipush 40 dX7_name_35 (by decide +kernel) ?_
          refine z_iload_1 dX7_name_37 ?_
          refine z_imul dX7_name_38 ?_
          refine z_iload_2 dX7_name_39 ?_
          refine z_iadd dX7_name_40 ?_
          refine z_iald dX7_name_41 rfl (by decide) (by omega) (by omega) ?_
          refine z_top (b := σ.2 15 ((40 * a) + k)) zsF_A ?_
          have w3 : zR (σ.2 15 ((40 * a) + k)) := hR.2 15 ((40 * a) + k)
          refine z_goto (tgt := 46) dX7_name_42 (by decide) ?_
          refine z_iret dX7_name_46 rfl ?_
          exact zPq (h) ((if_pos (by omega)).trans (congrArg (σ.2 15) (show a * 40 + k = 40 * a + k by omega))).symm (eqM.jF (by unfold zJ; omega) eqM.rfl')

set_option maxRecDepth 100000 in
theorem M_X7_told {G : zG} {σ : zSt} {Post : Option Value → zSt → Prop} {N : Int} (hI : zInv N σ) (hN : N ≤ 2000000000) (a k : Int) (ha : zR a) (hk : zR k) (h1 : 0 ≤ a → a < σ.1 0 24 → a < 100 → 0 ≤ k → k < 3 → ∀ σ2, eqM σ2 σ → Post (some (.int (zI (σ.2 17 (3 * a + k))))) σ2) (h0 : ¬ (0 ≤ a ∧ a < σ.1 0 24 ∧ a < 100 ∧ 0 ≤ k ∧ k < 3) → ∀ σ2, eqM σ2 σ → Post (some (.int (zI (-1)))) σ2) : zV G shM mX7_told 0 (zini 3 [.ref (zad G 0), .int (zI a), .int (zI k)]) [] σ Post := by
  refine z_rg (fun hR => ?_)
  refine z_lv (lv' := [some (.ref (zad G 0)), some (.int (zI a)), some (.int (zI k))]) rfl ?_
  obtain ⟨hgr, hfi, hle, hto, hna, hes, htl, hbg, hca, hsa, hme, hlc, hln, hsg, hrw, hnl, hns, hwd, hlv, hlf, hdi, htk⟩ := hI
  refine z_aload_0 dX7_told_0 ?_
  refine z_iconst 0 dX7_told_1 rfl ?_
  refine z_putI (j := 0) dX7_told_2 zp_X7_72 rfl rfl ⟨by decide, by decide⟩ ?_
  refine z_iload_1 dX7_told_5 ?_
  refine z_if_lt (tgt := 45) dX7_told_6 (by decide) (by omega) (fun c6 => ?_) (fun c6 => ?_)
  · refine z_iconst (-1) dX7_told_45 rfl ?_
    refine z_iret dX7_told_46 rfl ?_
    exact zPq (h0 (by omega)) rfl (eqM.jF (by unfold zJ; omega) eqM.rfl')
  · refine z_iload_1 dX7_told_9 ?_
    refine z_aload_0 dX7_told_10 ?_
    refine z_getI (j := 24) dX7_told_11 zf_X7_116 rfl rfl ?_
    refine z_top (b := σ.1 0 24) (zsF_ne (by omega)) ?_
    have w1 : zR (σ.1 0 24) := hR.1 0 24
    refine z_icmp_ge (tgt := 45) dX7_told_14 (by decide) (by omega) (by omega) (fun c14 => ?_) (fun c14 => ?_)
    · refine z_iconst (-1) dX7_told_45 rfl ?_
      refine z_iret dX7_told_46 rfl ?_
      exact zPq (h0 (by omega)) rfl (eqM.jF (by unfold zJ; omega) eqM.rfl')
    · refine z_iload_1 dX7_told_17 ?_
      refine z_bipush 100 dX7_told_18 (by decide +kernel) ?_
      refine z_icmp_ge (tgt := 45) dX7_told_20 (by decide) (by omega) ⟨by decide, by decide⟩ (fun c20 => ?_) (fun c20 => ?_)
      · refine z_iconst (-1) dX7_told_45 rfl ?_
        refine z_iret dX7_told_46 rfl ?_
        exact zPq (h0 (by omega)) rfl (eqM.jF (by unfold zJ; omega) eqM.rfl')
      · refine z_iload_2 dX7_told_23 ?_
        refine z_if_lt (tgt := 45) dX7_told_24 (by decide) (by omega) (fun c24 => ?_) (fun c24 => ?_)
        · refine z_iconst (-1) dX7_told_45 rfl ?_
          refine z_iret dX7_told_46 rfl ?_
          exact zPq (h0 (by omega)) rfl (eqM.jF (by unfold zJ; omega) eqM.rfl')
        · refine z_iload_2 dX7_told_27 ?_
          refine z_iconst 3 dX7_told_28 rfl ?_
          refine z_icmp_ge (tgt := 45) dX7_told_29 (by decide) (by omega) ⟨by decide, by decide⟩ (fun c29 => ?_) (fun c29 => ?_)
          · refine z_iconst (-1) dX7_told_45 rfl ?_
            refine z_iret dX7_told_46 rfl ?_
            exact zPq (h0 (by omega)) rfl (eqM.jF (by unfold zJ; omega) eqM.rfl')
          · refine z_aload_0 dX7_told_32 ?_
            refine z_getR (j := 25) dX7_told_33 zf_X7_63 rfl rfl ?_
            refine z_iconst 3 dX7_told_36 rfl ?_
            refine z_iload_1 dX7_told_37 ?_
            refine z_imul dX7_told_38 ?_
            refine z_iload_2 dX7_told_39 ?_
            refine z_iadd dX7_told_40 ?_
            refine z_iald dX7_told_41 rfl (by decide) (by omega) (by omega) ?_
            refine z_top (b := σ.2 17 ((3 * a) + k)) zsF_A ?_
            have w2 : zR (σ.2 17 ((3 * a) + k)) := hR.2 17 ((3 * a) + k)
            refine z_goto (tgt := 46) dX7_told_42 (by decide) ?_
            refine z_iret dX7_told_46 rfl ?_
            exact zPq (h1 (by omega) (by omega) (by omega) (by omega) (by omega)) rfl (eqM.jF (by unfold zJ; omega) eqM.rfl')

set_option maxRecDepth 100000 in
theorem M_X7_categoryOf {G : zG} {σ : zSt} {Post : Option Value → zSt → Prop} {N : Int} (hI : zInv N σ) (hN : N ≤ 2000000000) (s : Int) (hs : zR s) (h1 : 0 ≤ s → s < 256 → ∀ σ2, eqM σ2 σ → Post (some (.int (zI (σ.2 1 s)))) σ2) (h0 : s < 0 ∨ 256 ≤ s → ∀ σ2, eqM σ2 σ → Post (some (.int (zI (-2)))) σ2) : zV G shM mX7_categoryOf 0 (zini 2 [.ref (zad G 0), .int (zI s)]) [] σ Post := by
  refine z_rg (fun hR => ?_)
  refine z_lv (lv' := [some (.ref (zad G 0)), some (.int (zI s))]) rfl ?_
  obtain ⟨hgr, hfi, hle, hto, hna, hes, htl, hbg, hca, hsa, hme, hlc, hln, hsg, hrw, hnl, hns, hwd, hlv, hlf, hdi, htk⟩ := hI
  refine z_aload_0 dX7_categoryOf_0 ?_
  refine z_iconst 0 dX7_categoryOf_1 rfl ?_
  refine z_putI (j := 0) dX7_categoryOf_2 zp_X7_72 rfl rfl ⟨by decide, by decide⟩ ?_
  refine z_iload_1 dX7_categoryOf_5 ?_
  refine z_callS mX7_isSign [.int (zI s)] dX7_categoryOf_6 zk_X7_isSign zl_X7_75 ⟨Nat.le_of_ble_eq_true rfl, Nat.le_of_ble_eq_true rfl⟩ (Nat.le_of_ble_eq_true rfl) (Nat.le_of_ble_eq_true rfl) ?_
  refine M_X7_isSign s (by omega) (fun i1 i2 => ?_) (fun i1 => ?_)
  · refine z_b1 ?_
    refine z_if_eq (tgt := 21) dX7_categoryOf_9 (by decide) ⟨by decide, by decide⟩ (fun c9 => by exfalso; omega) (fun c9 => ?_)
    refine z_aload_0 dX7_categoryOf_12 ?_
    refine z_getR (j := 1) dX7_categoryOf_13 zf_X7_7 rfl rfl ?_
    refine z_iload_1 dX7_categoryOf_16 ?_
    refine z_iald dX7_categoryOf_17 rfl (by decide) (by omega) (by omega) ?_
    refine z_top (b := σ.2 1 s) zsF_A ?_
    have w1 : zR (σ.2 1 s) := hR.2 1 s
    refine z_goto (tgt := 23) dX7_categoryOf_18 (by decide) ?_
    refine z_iret dX7_categoryOf_23 rfl ?_
    exact zPq (h1 (by omega) (by omega)) rfl (eqM.jF (by unfold zJ; omega) eqM.rfl')
  · refine z_b1 ?_
    refine z_if_eq (tgt := 21) dX7_categoryOf_9 (by decide) ⟨by decide, by decide⟩ (fun c9 => ?_) (fun c9 => by exfalso; omega)
    refine z_bipush (-2) dX7_categoryOf_21 (by decide +kernel) ?_
    refine z_iret dX7_categoryOf_23 rfl ?_
    exact zPq (h0 (by omega)) rfl (eqM.jF (by unfold zJ; omega) eqM.rfl')

set_option maxRecDepth 100000 in
theorem M_X7_state {G : zG} {σ : zSt} {Post : Option Value → zSt → Prop} {N : Int} (hI : zInv N σ) (hN : N ≤ 2000000000) (h0 : σ.1 0 10 = 0 → ∀ σ2, eqM σ2 σ → Post (some (.int (zI (-1)))) σ2) (h1 : 0 < σ.1 0 10 → ∀ σ2, eqM σ2 σ → Post (some (.int (zI (σ.2 12 (σ.1 0 10 - 1))))) σ2) : zV G shM mX7_state 0 (zini 1 [.ref (zad G 0)]) [] σ Post := by
  refine z_rg (fun hR => ?_)
  refine z_lv (lv' := [some (.ref (zad G 0))]) rfl ?_
  obtain ⟨hgr, hfi, hle, hto, hna, hes, htl, hbg, hca, hsa, hme, hlc, hln, hsg, hrw, hnl, hns, hwd, hlv, hlf, hdi, htk⟩ := hI
  refine z_aload_0 dX7_state_0 ?_
  refine z_iconst 0 dX7_state_1 rfl ?_
  refine z_putI (j := 0) dX7_state_2 zp_X7_72 rfl rfl ⟨by decide, by decide⟩ ?_
  refine z_aload_0 dX7_state_5 ?_
  refine z_getI (j := 10) dX7_state_6 zf_X7_90 rfl rfl ?_
  refine z_top (b := σ.1 0 10) (zsF_ne (by omega)) ?_
  have w1 : zR (σ.1 0 10) := hR.1 0 10
  refine z_if_ne (tgt := 16) dX7_state_9 (by decide) (by omega) (fun c9 => ?_) (fun c9 => ?_)
  · refine z_aload_0 dX7_state_16 ?_
    refine z_getR (j := 16) dX7_state_17 zf_X7_48 rfl rfl ?_
    refine z_aload_0 dX7_state_20 ?_
    refine z_getI (j := 10) dX7_state_21 zf_X7_90 rfl rfl ?_
    refine z_top (b := σ.1 0 10) (zsF_ne (by omega)) ?_
    have w2 : zR (σ.1 0 10) := hR.1 0 10
    refine z_iconst 1 dX7_state_24 rfl ?_
    refine z_isub dX7_state_25 ?_
    refine z_iald dX7_state_26 rfl (by decide) (by omega) (by omega) ?_
    refine z_top (b := σ.2 12 ((σ.1 0 10) - 1)) zsF_A ?_
    have w3 : zR (σ.2 12 ((σ.1 0 10) - 1)) := hR.2 12 ((σ.1 0 10) - 1)
    refine z_iret dX7_state_27 rfl ?_
    exact zPq (h1 (by omega)) rfl (eqM.jF (by unfold zJ; omega) eqM.rfl')
  · refine z_iconst (-1) dX7_state_12 rfl ?_
    refine z_goto (tgt := 27) dX7_state_13 (by decide) ?_
    refine z_iret dX7_state_27 rfl ?_
    exact zPq (h0 (by omega)) rfl (eqM.jF (by unfold zJ; omega) eqM.rfl')

set_option maxRecDepth 100000 in
theorem M_X7_check {G : zG} {σ : zSt} {Post : Option Value → zSt → Prop} {N : Int} (hI : zInv N σ) (hN : N ≤ 2000000000) (h : ∀ σ2, eqM σ2 σ → Post (some (.int (zI 1))) σ2) : zV G shM mX7_check 0 (zini 1 [.ref (zad G 0)]) [] σ Post := by
  refine z_rg (fun hR => ?_)
  refine z_lv (lv' := [some (.ref (zad G 0))]) rfl ?_
  obtain ⟨hgr, hfi, hle, hto, hna, hes, htl, hbg, hca, hsa, hme, hlc, hln, hsg, hrw, hnl, hns, hwd, hlv, hlf, hdi, htk⟩ := hI
  refine z_aload_0 dX7_check_0 ?_
  refine z_iconst 0 dX7_check_1 rfl ?_
  refine z_putI (j := 0) dX7_check_2 zp_X7_72 rfl rfl ⟨by decide, by decide⟩ ?_
  refine z_iconst 1 dX7_check_5 rfl ?_
  refine z_iret dX7_check_6 rfl ?_
  exact zPq (h) rfl (eqM.jF (by unfold zJ; omega) eqM.rfl')

set_option maxRecDepth 100000 in
theorem M_X7_token {G : zG} {σ : zSt} {Post : Option Value → zSt → Prop} {N : Int} (hI : zInv N σ) (hN : N ≤ 2000000000) (a k : Int) (ha : zR a) (hk : zR k) (h1 : 0 ≤ a → a < σ.1 0 19 → 0 ≤ k → k < 6 → ∀ σ2, eqM σ2 σ → σ2.1 0 0 = 0 → Post (some (.int (zI (σ.2 14 (6 * a + k))))) σ2) (h0 : ¬ (0 ≤ a ∧ a < σ.1 0 19 ∧ 0 ≤ k ∧ k < 6) → ∀ σ2, eqM σ2 σ → σ2.1 0 0 = 1 → Post (some (.int (zI 0))) σ2) : zV G shM mX7_token 0 (zini 3 [.ref (zad G 0), .int (zI a), .int (zI k)]) [] σ Post := by
  refine z_rg (fun hR => ?_)
  refine z_lv (lv' := [some (.ref (zad G 0)), some (.int (zI a)), some (.int (zI k))]) rfl ?_
  obtain ⟨hgr, hfi, hle, hto, hna, hes, htl, hbg, hca, hsa, hme, hlc, hln, hsg, hrw, hnl, hns, hwd, hlv, hlf, hdi, htk⟩ := hI
  refine z_aload_0 dX7_token_0 ?_
  refine z_iload_1 dX7_token_1 ?_
  refine z_if_lt (tgt := 22) dX7_token_2 (by decide) (by omega) (fun c2 => ?_) (fun c2 => ?_)
  · refine z_iconst 1 dX7_token_22 rfl ?_
    refine z_goto (tgt := 27) dX7_token_23 (by decide) ?_
    refine z_putI (j := 0) dX7_token_27 zp_X7_72 rfl rfl ⟨by decide, by decide⟩ ?_
    refine z_aload_0 dX7_token_30 ?_
    refine z_getI (j := 0) dX7_token_31 zf_X7_72 rfl rfl ?_
    refine z_top (b := 1) zsF_eq ?_
    refine z_iconst 1 dX7_token_34 rfl ?_
    refine z_icmp_ne (tgt := 42) dX7_token_35 (by decide) ⟨by decide, by decide⟩ ⟨by decide, by decide⟩ (fun c35 => by exfalso; omega) (fun c35 => ?_)
    refine z_iconst 0 dX7_token_38 rfl ?_
    refine z_goto (tgt := 53) dX7_token_39 (by decide) ?_
    refine z_iret dX7_token_53 rfl ?_
    exact h0 (by omega) _ (eqM.jF (by unfold zJ; omega) eqM.rfl') zsF_eq
  · refine z_iload_1 dX7_token_5 ?_
    refine z_aload_0 dX7_token_6 ?_
    refine z_getI (j := 19) dX7_token_7 zf_X7_119 rfl rfl ?_
    have w1 : zR (σ.1 0 19) := hR.1 0 19
    refine z_icmp_ge (tgt := 22) dX7_token_10 (by decide) (by omega) (by omega) (fun c10 => ?_) (fun c10 => ?_)
    · refine z_iconst 1 dX7_token_22 rfl ?_
      refine z_goto (tgt := 27) dX7_token_23 (by decide) ?_
      refine z_putI (j := 0) dX7_token_27 zp_X7_72 rfl rfl ⟨by decide, by decide⟩ ?_
      refine z_aload_0 dX7_token_30 ?_
      refine z_getI (j := 0) dX7_token_31 zf_X7_72 rfl rfl ?_
      refine z_top (b := 1) zsF_eq ?_
      refine z_iconst 1 dX7_token_34 rfl ?_
      refine z_icmp_ne (tgt := 42) dX7_token_35 (by decide) ⟨by decide, by decide⟩ ⟨by decide, by decide⟩ (fun c35 => by exfalso; omega) (fun c35 => ?_)
      refine z_iconst 0 dX7_token_38 rfl ?_
      refine z_goto (tgt := 53) dX7_token_39 (by decide) ?_
      refine z_iret dX7_token_53 rfl ?_
      exact h0 (by omega) _ (eqM.jF (by unfold zJ; omega) eqM.rfl') zsF_eq
    · refine z_iload_2 dX7_token_13 ?_
      refine z_if_lt (tgt := 22) dX7_token_14 (by decide) (by omega) (fun c14 => ?_) (fun c14 => ?_)
      · refine z_iconst 1 dX7_token_22 rfl ?_
        refine z_goto (tgt := 27) dX7_token_23 (by decide) ?_
        refine z_putI (j := 0) dX7_token_27 zp_X7_72 rfl rfl ⟨by decide, by decide⟩ ?_
        refine z_aload_0 dX7_token_30 ?_
        refine z_getI (j := 0) dX7_token_31 zf_X7_72 rfl rfl ?_
        refine z_top (b := 1) zsF_eq ?_
        refine z_iconst 1 dX7_token_34 rfl ?_
        refine z_icmp_ne (tgt := 42) dX7_token_35 (by decide) ⟨by decide, by decide⟩ ⟨by decide, by decide⟩ (fun c35 => by exfalso; omega) (fun c35 => ?_)
        refine z_iconst 0 dX7_token_38 rfl ?_
        refine z_goto (tgt := 53) dX7_token_39 (by decide) ?_
        refine z_iret dX7_token_53 rfl ?_
        exact h0 (by omega) _ (eqM.jF (by unfold zJ; omega) eqM.rfl') zsF_eq
      · refine z_iload_2 dX7_token_17 ?_
        refine z_iconst 5 dX7_token_18 rfl ?_
        refine z_icmp_le (tgt := 26) dX7_token_19 (by decide) (by omega) ⟨by decide, by decide⟩ (fun c19 => ?_) (fun c19 => ?_)
        · refine z_iconst 0 dX7_token_26 rfl ?_
          refine z_putI (j := 0) dX7_token_27 zp_X7_72 rfl rfl ⟨by decide, by decide⟩ ?_
          refine z_aload_0 dX7_token_30 ?_
          refine z_getI (j := 0) dX7_token_31 zf_X7_72 rfl rfl ?_
          refine z_top (b := 0) zsF_eq ?_
          refine z_iconst 1 dX7_token_34 rfl ?_
          refine z_icmp_ne (tgt := 42) dX7_token_35 (by decide) ⟨by decide, by decide⟩ ⟨by decide, by decide⟩ (fun c35 => ?_) (fun c35 => by exfalso; omega)
          refine z_aload_0 dX7_token_42 ?_
          refine z_getR (j := 20) dX7_token_43 zf_X7_54 rfl rfl ?_
          refine z_bipush 6 dX7_token_46 (by decide +kernel) ?_
          refine z_iload_1 dX7_token_48 ?_
          refine z_imul dX7_token_49 ?_
          refine z_iload_2 dX7_token_50 ?_
          refine z_iadd dX7_token_51 ?_
          refine z_iald dX7_token_52 rfl (by decide) (by omega) (by omega) ?_
          refine z_top (b := σ.2 14 ((6 * a) + k)) zsF_A ?_
          have w2 : zR (σ.2 14 ((6 * a) + k)) := hR.2 14 ((6 * a) + k)
          refine z_iret dX7_token_53 rfl ?_
          exact h1 (by omega) (by omega) (by omega) (by omega) _ (eqM.jF (by unfold zJ; omega) eqM.rfl') zsF_eq
        · refine z_iconst 1 dX7_token_22 rfl ?_
          refine z_goto (tgt := 27) dX7_token_23 (by decide) ?_
          refine z_putI (j := 0) dX7_token_27 zp_X7_72 rfl rfl ⟨by decide, by decide⟩ ?_
          refine z_aload_0 dX7_token_30 ?_
          refine z_getI (j := 0) dX7_token_31 zf_X7_72 rfl rfl ?_
          refine z_top (b := 1) zsF_eq ?_
          refine z_iconst 1 dX7_token_34 rfl ?_
          refine z_icmp_ne (tgt := 42) dX7_token_35 (by decide) ⟨by decide, by decide⟩ ⟨by decide, by decide⟩ (fun c35 => by exfalso; omega) (fun c35 => ?_)
          refine z_iconst 0 dX7_token_38 rfl ?_
          refine z_goto (tgt := 53) dX7_token_39 (by decide) ?_
          refine z_iret dX7_token_53 rfl ?_
          exact h0 (by omega) _ (eqM.jF (by unfold zJ; omega) eqM.rfl') zsF_eq

set_option maxRecDepth 100000 in
theorem M_X7_count {G : zG} {σ : zSt} {Post : Option Value → zSt → Prop} {N : Int} (hI : zInv N σ) (hN : N ≤ 2000000000) (q : Int) (hq : zR q) (h0 : q = 0 → ∀ σ2, eqM σ2 σ → Post (some (.int (zI (σ.1 0 19)))) σ2) (h1 : q = 1 → ∀ σ2, eqM σ2 σ → Post (some (.int (zI (σ.1 0 21)))) σ2) (h2 : q = 2 → ∀ σ2, eqM σ2 σ → Post (some (.int (zI (σ.1 0 6)))) σ2) (h3 : q = 3 → ∀ σ2, eqM σ2 σ → Post (some (.int (zI (σ.1 0 10)))) σ2) (h4 : q = 4 → ∀ σ2, eqM σ2 σ → Post (some (.int (zI (σ.1 0 3)))) σ2) (h5 : q = 5 → ∀ σ2, eqM σ2 σ → Post (some (.int (zI (σ.1 0 24)))) σ2) (h60 : q = 6 → (σ.1 0 10 = 0 ∨ 0 < σ.1 0 10 ∧ σ.2 12 (σ.1 0 10 - 1) < 0) → ∀ σ2, eqM σ2 σ → Post (some (.int (zI 0))) σ2) (h61 : q = 6 → 0 < σ.1 0 10 → 0 ≤ σ.2 12 (σ.1 0 10 - 1) → ∀ σ2, eqM σ2 σ → Post (some (.int (zI (σ.2 10 (σ.1 0 10 - 1) - σ.2 11 (σ.1 0 10 - 1))))) σ2) (h7 : q = 7 → ∀ σ2, eqM σ2 σ → Post (some (.int (zI (σ.1 0 18)))) σ2) (h8 : q < 0 ∨ 7 < q → ∀ σ2, eqM σ2 σ → Post (some (.int (zI (-2)))) σ2) : zV G shM mX7_count 0 (zini 3 [.ref (zad G 0), .int (zI q)]) [] σ Post := by
  refine z_rg (fun hR => ?_)
  refine z_lv (lv' := [some (.ref (zad G 0)), some (.int (zI q)), none]) rfl ?_
  obtain ⟨hgr, hfi, hle, hto, hna, hes, htl, hbg, hca, hsa, hme, hlc, hln, hsg, hrw, hnl, hns, hwd, hlv, hlf, hdi, htk⟩ := hI
  refine z_aload_0 dX7_count_0 ?_
  refine z_iconst 0 dX7_count_1 rfl ?_
  refine z_putI (j := 0) dX7_count_2 zp_X7_72 rfl rfl ⟨by decide, by decide⟩ ?_
  refine z_aload_0 dX7_count_5 ?_
  refine z_getI (j := 10) dX7_count_6 zf_X7_90 rfl rfl ?_
  refine z_top (b := σ.1 0 10) (zsF_ne (by omega)) ?_
  have w1 : zR (σ.1 0 10) := hR.1 0 10
  refine z_iconst 1 dX7_count_9 rfl ?_
  refine z_isub dX7_count_10 ?_
  refine z_istore_2 dX7_count_11 (Nat.le_of_ble_eq_true rfl) rfl ?_
  refine z_iload_1 dX7_count_12 ?_
  rcases Decidable.em (q = 0) with c13_0 | c13_0
  · refine z_top c13_0 ?_
    refine z_tabIn (tgt := 60) 0 dX7_count_13 (by omega) (by decide) (by decide) rfl (by decide) ?_
    refine z_aload_0 dX7_count_60 ?_
    refine z_getI (j := 19) dX7_count_61 zf_X7_119 rfl rfl ?_
    refine z_top (b := σ.1 0 19) (zsF_ne (by omega)) ?_
    have w2 : zR (σ.1 0 19) := hR.1 0 19
    refine z_iret dX7_count_64 rfl ?_
    exact zPq (h0 (by omega)) rfl (eqM.jF (by unfold zJ; omega) eqM.rfl')
  rcases Decidable.em (q = 1) with c13_1 | c13_1
  · refine z_top c13_1 ?_
    refine z_tabIn (tgt := 65) 1 dX7_count_13 (by omega) (by decide) (by decide) rfl (by decide) ?_
    refine z_aload_0 dX7_count_65 ?_
    refine z_getI (j := 21) dX7_count_66 zf_X7_69 rfl rfl ?_
    refine z_top (b := σ.1 0 21) (zsF_ne (by omega)) ?_
    have w3 : zR (σ.1 0 21) := hR.1 0 21
    refine z_iret dX7_count_69 rfl ?_
    exact zPq (h1 (by omega)) rfl (eqM.jF (by unfold zJ; omega) eqM.rfl')
  rcases Decidable.em (q = 2) with c13_2 | c13_2
  · refine z_top c13_2 ?_
    refine z_tabIn (tgt := 70) 2 dX7_count_13 (by omega) (by decide) (by decide) rfl (by decide) ?_
    refine z_aload_0 dX7_count_70 ?_
    refine z_getI (j := 6) dX7_count_71 zf_X7_82 rfl rfl ?_
    refine z_top (b := σ.1 0 6) (zsF_ne (by omega)) ?_
    have w4 : zR (σ.1 0 6) := hR.1 0 6
    refine z_iret dX7_count_74 rfl ?_
    exact zPq (h2 (by omega)) rfl (eqM.jF (by unfold zJ; omega) eqM.rfl')
  rcases Decidable.em (q = 3) with c13_3 | c13_3
  · refine z_top c13_3 ?_
    refine z_tabIn (tgt := 75) 3 dX7_count_13 (by omega) (by decide) (by decide) rfl (by decide) ?_
    refine z_aload_0 dX7_count_75 ?_
    refine z_getI (j := 10) dX7_count_76 zf_X7_90 rfl rfl ?_
    refine z_top (b := σ.1 0 10) (zsF_ne (by omega)) ?_
    have w5 : zR (σ.1 0 10) := hR.1 0 10
    refine z_iret dX7_count_79 rfl ?_
    exact zPq (h3 (by omega)) rfl (eqM.jF (by unfold zJ; omega) eqM.rfl')
  rcases Decidable.em (q = 4) with c13_4 | c13_4
  · refine z_top c13_4 ?_
    refine z_tabIn (tgt := 80) 4 dX7_count_13 (by omega) (by decide) (by decide) rfl (by decide) ?_
    refine z_aload_0 dX7_count_80 ?_
    refine z_getI (j := 3) dX7_count_81 zf_X7_79 rfl rfl ?_
    refine z_top (b := σ.1 0 3) (zsF_ne (by omega)) ?_
    have w6 : zR (σ.1 0 3) := hR.1 0 3
    refine z_iret dX7_count_84 rfl ?_
    exact zPq (h4 (by omega)) rfl (eqM.jF (by unfold zJ; omega) eqM.rfl')
  rcases Decidable.em (q = 5) with c13_5 | c13_5
  · refine z_top c13_5 ?_
    refine z_tabIn (tgt := 85) 5 dX7_count_13 (by omega) (by decide) (by decide) rfl (by decide) ?_
    refine z_aload_0 dX7_count_85 ?_
    refine z_getI (j := 24) dX7_count_86 zf_X7_116 rfl rfl ?_
    refine z_top (b := σ.1 0 24) (zsF_ne (by omega)) ?_
    have w7 : zR (σ.1 0 24) := hR.1 0 24
    refine z_iret dX7_count_89 rfl ?_
    exact zPq (h5 (by omega)) rfl (eqM.jF (by unfold zJ; omega) eqM.rfl')
  rcases Decidable.em (q = 6) with c13_6 | c13_6
  · refine z_top c13_6 ?_
    refine z_tabIn (tgt := 90) 6 dX7_count_13 (by omega) (by decide) (by decide) rfl (by decide) ?_
    refine z_iload_2 dX7_count_90 ?_
    refine z_if_lt (tgt := 103) dX7_count_91 (by decide) (by omega) (fun c91 => ?_) (fun c91 => ?_)
    · refine z_iconst 0 dX7_count_103 rfl ?_
      refine z_goto (tgt := 120) dX7_count_104 (by decide) ?_
      refine z_iret dX7_count_120 rfl ?_
      exact zPq (h60 (by omega) (by omega)) rfl (eqM.jF (by unfold zJ; omega) eqM.rfl')
    · refine z_aload_0 dX7_count_94 ?_
      refine z_getR (j := 16) dX7_count_95 zf_X7_48 rfl rfl ?_
      refine z_iload_2 dX7_count_98 ?_
      refine z_iald dX7_count_99 rfl (by decide) (by omega) (by omega) ?_
      refine z_top (b := σ.2 12 ((σ.1 0 10) - 1)) zsF_A ?_
      have w8 : zR (σ.2 12 ((σ.1 0 10) - 1)) := hR.2 12 ((σ.1 0 10) - 1)
      refine z_if_ge (tgt := 107) dX7_count_100 (by decide) (by omega) (fun c100 => ?_) (fun c100 => ?_)
      · refine z_aload_0 dX7_count_107 ?_
        refine z_getR (j := 14) dX7_count_108 zf_X7_42 rfl rfl ?_
        refine z_iload_2 dX7_count_111 ?_
        refine z_iald dX7_count_112 rfl (by decide) (by omega) (by omega) ?_
        refine z_top (b := σ.2 10 ((σ.1 0 10) - 1)) zsF_A ?_
        have w9 : zR (σ.2 10 ((σ.1 0 10) - 1)) := hR.2 10 ((σ.1 0 10) - 1)
        refine z_aload_0 dX7_count_113 ?_
        refine z_getR (j := 15) dX7_count_114 zf_X7_45 rfl rfl ?_
        refine z_iload_2 dX7_count_117 ?_
        refine z_iald dX7_count_118 rfl (by decide) (by omega) (by omega) ?_
        refine z_top (b := σ.2 11 ((σ.1 0 10) - 1)) zsF_A ?_
        have w10 : zR (σ.2 11 ((σ.1 0 10) - 1)) := hR.2 11 ((σ.1 0 10) - 1)
        refine z_isub dX7_count_119 ?_
        refine z_iret dX7_count_120 rfl ?_
        exact zPq (h61 (by omega) (by omega) (by omega)) rfl (eqM.jF (by unfold zJ; omega) eqM.rfl')
      · refine z_iconst 0 dX7_count_103 rfl ?_
        refine z_goto (tgt := 120) dX7_count_104 (by decide) ?_
        refine z_iret dX7_count_120 rfl ?_
        exact zPq (h60 (by omega) (by omega)) rfl (eqM.jF (by unfold zJ; omega) eqM.rfl')
  rcases Decidable.em (q = 7) with c13_7 | c13_7
  · refine z_top c13_7 ?_
    refine z_tabIn (tgt := 121) 7 dX7_count_13 (by omega) (by decide) (by decide) rfl (by decide) ?_
    refine z_aload_0 dX7_count_121 ?_
    refine z_getI (j := 18) dX7_count_122 zf_X7_97 rfl rfl ?_
    refine z_top (b := σ.1 0 18) (zsF_ne (by omega)) ?_
    have w11 : zR (σ.1 0 18) := hR.1 0 18
    refine z_iret dX7_count_125 rfl ?_
    exact zPq (h7 (by omega)) rfl (eqM.jF (by unfold zJ; omega) eqM.rfl')
  refine z_tabOut (tgt := 126) dX7_count_13 (by omega) (by omega) (by decide) ?_
  refine z_bipush (-2) dX7_count_126 (by decide +kernel) ?_
  refine z_iret dX7_count_128 rfl ?_
  exact zPq (h8 (by omega)) rfl (eqM.jF (by unfold zJ; omega) eqM.rfl')
end
section
theorem zst_dg {row : Int → Int} {len p : Int} (q : 0 ≤ zdig (zst row len p)) : p < len := by
  rcases Decidable.em (p < len) with hh | hh
  · exact hh
  · rw [zst_out (by omega)] at q; exact absurd q (by decide)
def zmr (r : Int → Int) (t : Int) : Int → Int := fun q => r (128 * t + q)
theorem zsee_rg {cats row : Int → Int} {len : Int} (hr : ∀ q, 0 ≤ row q ∧ row q ≤ 255) : ∀ (n : Nat) (s b : Int), 0 ≤ s → s ≤ 255 → 0 ≤ b → b ≤ len → 0 ≤ (zsee cats row len n s b).1 ∧ (zsee cats row len n s b).1 ≤ 255 ∧ b ≤ (zsee cats row len n s b).2 ∧ (zsee cats row len n s b).2 ≤ len := by
  intro n
  induction n with
  | zero => intro s b h0 h1 h2 h3; exact ⟨h0, h1, Int.le_refl _, h3⟩
  | succ n ih =>
    intro s b h0 h1 h2 h3
    rcases Classical.em (zseeP cats row len s b) with hp | hp
    · have q := zst_lt hp.2.2.1
      have d1 := zdig_R (zst row len (b + 1))
      have d2 := zdig_R (zst row len (b + 2))
      obtain ⟨-, -, p3, p4⟩ := id hp
      by_cases hd : 0 ≤ zdig (zst row len (b + 1)) ∧ 0 ≤ zdig (zst row len (b + 2))
      · have q2 : b + 2 < len := by
          rcases Decidable.em (b + 2 < len) with hh | hh
          · exact hh
          · have := hd.2; rw [zst_out (by omega)] at this; exact absurd this (by decide)
        rw [zsee_1 hp hd.1 hd.2]
        have := ih (16 * zdig (zst row len (b + 1)) + zdig (zst row len (b + 2))) (b + 3) (by omega) (by omega) (by omega) (by omega)
        omega
      · by_cases h6 : zst row len (b + 1) < 64
        · rw [zsee_2 hp hd h6]
          have := ih (zst row len (b + 1) + 64) (b + 2) (by omega) (by omega) (by omega) (by omega)
          omega
        · rw [zsee_3 hp hd (by omega)]
          have := ih (zst row len (b + 1) - 64) (b + 2) (by omega) (by omega) (by omega) (by omega)
          omega
    · rw [zsee_0 hp]; exact ⟨h0, h1, Int.le_refl _, h3⟩

set_option maxRecDepth 100000 in
theorem M_X7_standing {G : zG} {σ : zSt} {Post : Option Value → zSt → Prop} (T : Int) (hT0 : 0 ≤ T) (hT6 : T < 6) (hT : σ.1 0 10 = T + 1) (z : Int) (hz0 : 0 ≤ z) (hz : zR z) (hl : σ.2 10 T ≤ 121) (h : Post (some (.int (zI (zst (zmr (σ.2 9) T) (σ.2 10 T) z)))) σ) : zV G shM mX7_standing 0 (zini 3 [.ref (zad G 0), .int (zI z)]) [] σ Post := by
  refine z_rg (fun hR => ?_)
  refine z_lv (lv' := [some (.ref (zad G 0)), some (.int (zI z)), none]) rfl ?_
  refine z_aload_0 dX7_standing_0 ?_
  refine z_getI (j := 10) dX7_standing_1 zf_X7_90 rfl rfl ?_
  have w1 : zR (σ.1 0 10) := hR.1 0 10
  refine z_iconst 1 dX7_standing_4 rfl ?_
  refine z_isub dX7_standing_5 ?_
  refine z_top (b := T) (by omega) ?_
  refine z_istore_2 dX7_standing_6 (Nat.le_of_ble_eq_true rfl) rfl ?_
  refine z_iload_1 dX7_standing_7 ?_
  refine z_aload_0 dX7_standing_8 ?_
  refine z_getR (j := 14) dX7_standing_9 zf_X7_42 rfl rfl ?_
  refine z_iload_2 dX7_standing_12 ?_
  refine z_iald dX7_standing_13 rfl (by decide) (by omega) (by omega) ?_
  have w2 : zR (σ.2 10 T) := hR.2 10 T
  refine z_icmp_ge (tgt := 32) dX7_standing_14 (by decide) (by omega) (by omega) (fun c14 => ?_) (fun c14 => ?_)
  · refine z_iconst (-1) dX7_standing_32 rfl ?_
    refine z_iret dX7_standing_33 rfl ?_
    exact zPe h (zst_out (by omega)).symm
  · refine z_aload_0 dX7_standing_17 ?_
    refine z_getR (j := 13) dX7_standing_18 zf_X7_39 rfl rfl ?_
    refine z_sipush 128 dX7_standing_21 (by decide +kernel) ?_
    refine z_iload_2 dX7_standing_24 ?_
    refine z_imul dX7_standing_25 ?_
    refine z_iload_1 dX7_standing_26 ?_
    refine z_iadd dX7_standing_27 ?_
    refine z_iald dX7_standing_28 rfl (by decide) (by omega) (by omega) ?_
    have w3 : zR (σ.2 9 ((128 * T) + z)) := hR.2 9 ((128 * T) + z)
    refine z_goto (tgt := 33) dX7_standing_29 (by decide) ?_
    refine z_iret dX7_standing_33 rfl ?_
    exact zPe h (zst_in (row := (zmr (σ.2 9) T)) (by omega) (by omega)).symm

set_option maxRecDepth 100000 in
theorem L_X7_see {G : zG} {σ : zSt} {Post : Option Value → zSt → Prop} (T : Int) (hT0 : 0 ≤ T) (hT6 : T < 6) (hT : σ.1 0 10 = T + 1) (z : Int) (hR : zRg σ) (hz0 : 0 ≤ z) (hl : σ.2 10 T ≤ 121) (hrw : ∀ q, 0 ≤ σ.2 9 q ∧ σ.2 9 q ≤ 255) : ∀ (m : Nat) (s w : Int) (y2 y3 : Option Value) (hs0 : 0 ≤ s) (hs1 : s ≤ 255) (hw1 : 1 ≤ w) (hzw : z + w ≤ σ.2 10 T) (hm : σ.2 10 T - (z + w) < m) (h : Post none (zsF (zsF σ 0 26 (zsee (σ.2 1) (zmr (σ.2 9) T) (σ.2 10 T) m s (z + w)).1) 0 27 ((zsee (σ.2 1) (zmr (σ.2 9) T) (σ.2 10 T) m s (z + w)).2 - z))), zV G shM mX7_see 14 [some (.ref (zad G 0)), some (.int (zI z)), y2, y3] [] (zsF (zsF σ 0 26 s) 0 27 w) Post := by
  intro m
  induction m with
  | zero =>
    intro s w y2 y3 hs0 hs1 hw1 hzw hm h
    exfalso
    omega
  | succ m ih =>
    intro s w y2 y3 hs0 hs1 hw1 hzw hm h
    have ez : zat (σ.2 1) s = σ.2 1 s := zat_in (by omega) (by omega)
    refine z_aload_0 dX7_see_14 ?_
    refine z_getR (j := 1) dX7_see_15 zf_X7_7 rfl rfl ?_
    refine z_aload_0 dX7_see_18 ?_
    refine z_getI (j := 26) dX7_see_19 zf_X7_104 rfl rfl ?_
    refine z_top (b := s) ((zsF_ne (by omega)).trans zsF_eq) ?_
    refine z_iald dX7_see_22 rfl (by decide) (by omega) (by omega) ?_
    refine z_top (b := σ.2 1 s) (zsF_A.trans zsF_A) ?_
    have w1 : zR (σ.2 1 s) := hR.2 1 s
    refine z_bipush 7 dX7_see_23 (by decide +kernel) ?_
    refine z_icmp_ne (tgt := 166) dX7_see_25 (by decide) (by omega) ⟨by decide, by decide⟩ (fun c25 => ?_) (fun c25 => ?_)
    · refine z_vret dX7_see_166 rfl ?_
      rw [zsee_0 (fun q => by obtain ⟨q1, q2, q3, q4⟩ := q; omega), show z + w - z = w by omega] at h
      exact h
    · refine z_aload_0 dX7_see_28 ?_
      refine z_iload_1 dX7_see_29 ?_
      refine z_aload_0 dX7_see_30 ?_
      refine z_getI (j := 27) dX7_see_31 zf_X7_107 rfl rfl ?_
      refine z_top (b := w) zsF_eq ?_
      refine z_iadd dX7_see_34 ?_
      refine z_callV mX7_standing [.int (zI (z + w))] dX7_see_35 zk_X7_standing zl_X7_100 ⟨Nat.le_of_ble_eq_true rfl, Nat.le_of_ble_eq_true rfl⟩ rfl rfl (Nat.le_of_ble_eq_true rfl) (Nat.le_of_ble_eq_true rfl) ?_
      refine M_X7_standing T hT0 hT6 (zeqE (b := σ.1 0 10) ((zsF_ne (by omega)).trans (zsF_ne (by omega))) (by omega)) (z + w) (by omega) (by omega) (zleE (b := σ.2 10 T) (zsF_A.trans zsF_A) (by omega)) ?_
      refine z_b1 ?_
      refine z_top (b := (zst (zmr (σ.2 9) T) (σ.2 10 T) (z + w))) (zst_cg (congrArg (fun r => zmr r T) (zsF_W.trans zsF_W)) (zsF_A.trans zsF_A)) ?_
      have w2 := zst_R (zmr (σ.2 9) T) (σ.2 10 T) (z + w) (fun q => hR.2 9 _)
      refine z_aload_0 dX7_see_38 ?_
      refine z_getI (j := 26) dX7_see_39 zf_X7_104 rfl rfl ?_
      refine z_top (b := s) ((zsF_ne (by omega)).trans zsF_eq) ?_
      refine z_icmp_ne (tgt := 166) dX7_see_42 (by decide) (by omega) (by omega) (fun c42 => ?_) (fun c42 => ?_)
      · refine z_vret dX7_see_166 rfl ?_
        rw [zsee_0 (fun q => by obtain ⟨q1, q2, q3, q4⟩ := q; omega), show z + w - z = w by omega] at h
        exact h
      · refine z_aload_0 dX7_see_45 ?_
        refine z_iload_1 dX7_see_46 ?_
        refine z_aload_0 dX7_see_47 ?_
        refine z_getI (j := 27) dX7_see_48 zf_X7_107 rfl rfl ?_
        refine z_top (b := w) zsF_eq ?_
        refine z_iadd dX7_see_51 ?_
        refine z_iconst 1 dX7_see_52 rfl ?_
        refine z_iadd dX7_see_53 ?_
        refine z_callV mX7_standing [.int (zI ((z + w) + 1))] dX7_see_54 zk_X7_standing zl_X7_100 ⟨Nat.le_of_ble_eq_true rfl, Nat.le_of_ble_eq_true rfl⟩ rfl rfl (Nat.le_of_ble_eq_true rfl) (Nat.le_of_ble_eq_true rfl) ?_
        refine M_X7_standing T hT0 hT6 (zeqE (b := σ.1 0 10) ((zsF_ne (by omega)).trans (zsF_ne (by omega))) (by omega)) ((z + w) + 1) (by omega) (by omega) (zleE (b := σ.2 10 T) (zsF_A.trans zsF_A) (by omega)) ?_
        refine z_b1 ?_
        refine z_top (b := (zst (zmr (σ.2 9) T) (σ.2 10 T) ((z + w) + 1))) (zst_cg (congrArg (fun r => zmr r T) (zsF_W.trans zsF_W)) (zsF_A.trans zsF_A)) ?_
        have w3 := zst_R (zmr (σ.2 9) T) (σ.2 10 T) ((z + w) + 1) (fun q => hR.2 9 _)
        refine z_callS mX7_isLow [.int (zI (zst (zmr (σ.2 9) T) (σ.2 10 T) ((z + w) + 1)))] dX7_see_57 zk_X7_isLow zl_X7_110 ⟨Nat.le_of_ble_eq_true rfl, Nat.le_of_ble_eq_true rfl⟩ (Nat.le_of_ble_eq_true rfl) (Nat.le_of_ble_eq_true rfl) ?_
        refine M_X7_isLow (zst (zmr (σ.2 9) T) (σ.2 10 T) ((z + w) + 1)) (by omega) (fun i1 i2 => ?_) (fun i1 => ?_)
        · refine z_b1 ?_
          refine z_if_eq (tgt := 166) dX7_see_60 (by decide) ⟨by decide, by decide⟩ (fun c60 => by exfalso; omega) (fun c60 => ?_)
          refine z_aload_0 dX7_see_63 ?_
          refine z_iload_1 dX7_see_64 ?_
          refine z_aload_0 dX7_see_65 ?_
          refine z_getI (j := 27) dX7_see_66 zf_X7_107 rfl rfl ?_
          refine z_top (b := w) zsF_eq ?_
          refine z_iadd dX7_see_69 ?_
          refine z_iconst 1 dX7_see_70 rfl ?_
          refine z_iadd dX7_see_71 ?_
          refine z_callV mX7_standing [.int (zI ((z + w) + 1))] dX7_see_72 zk_X7_standing zl_X7_100 ⟨Nat.le_of_ble_eq_true rfl, Nat.le_of_ble_eq_true rfl⟩ rfl rfl (Nat.le_of_ble_eq_true rfl) (Nat.le_of_ble_eq_true rfl) ?_
          refine M_X7_standing T hT0 hT6 (zeqE (b := σ.1 0 10) ((zsF_ne (by omega)).trans (zsF_ne (by omega))) (by omega)) ((z + w) + 1) (by omega) (by omega) (zleE (b := σ.2 10 T) (zsF_A.trans zsF_A) (by omega)) ?_
          refine z_b1 ?_
          refine z_top (b := (zst (zmr (σ.2 9) T) (σ.2 10 T) ((z + w) + 1))) (zst_cg (congrArg (fun r => zmr r T) (zsF_W.trans zsF_W)) (zsF_A.trans zsF_A)) ?_
          have w4 := zst_R (zmr (σ.2 9) T) (σ.2 10 T) ((z + w) + 1) (fun q => hR.2 9 _)
          refine z_istore_2 dX7_see_75 (Nat.le_of_ble_eq_true rfl) rfl ?_
          refine z_aload_0 dX7_see_76 ?_
          refine z_iload_1 dX7_see_77 ?_
          refine z_aload_0 dX7_see_78 ?_
          refine z_getI (j := 27) dX7_see_79 zf_X7_107 rfl rfl ?_
          refine z_top (b := w) zsF_eq ?_
          refine z_iadd dX7_see_82 ?_
          refine z_iconst 2 dX7_see_83 rfl ?_
          refine z_iadd dX7_see_84 ?_
          refine z_callV mX7_standing [.int (zI ((z + w) + 2))] dX7_see_85 zk_X7_standing zl_X7_100 ⟨Nat.le_of_ble_eq_true rfl, Nat.le_of_ble_eq_true rfl⟩ rfl rfl (Nat.le_of_ble_eq_true rfl) (Nat.le_of_ble_eq_true rfl) ?_
          refine M_X7_standing T hT0 hT6 (zeqE (b := σ.1 0 10) ((zsF_ne (by omega)).trans (zsF_ne (by omega))) (by omega)) ((z + w) + 2) (by omega) (by omega) (zleE (b := σ.2 10 T) (zsF_A.trans zsF_A) (by omega)) ?_
          refine z_b1 ?_
          refine z_top (b := (zst (zmr (σ.2 9) T) (σ.2 10 T) ((z + w) + 2))) (zst_cg (congrArg (fun r => zmr r T) (zsF_W.trans zsF_W)) (zsF_A.trans zsF_A)) ?_
          have w5 := zst_R (zmr (σ.2 9) T) (σ.2 10 T) ((z + w) + 2) (fun q => hR.2 9 _)
          refine z_istore_3 dX7_see_88 (Nat.le_of_ble_eq_true rfl) rfl ?_
          refine z_iload_2 dX7_see_89 ?_
          refine z_callS mX7_digit [.int (zI (zst (zmr (σ.2 9) T) (σ.2 10 T) ((z + w) + 1)))] dX7_see_90 zk_X7_digit zl_X7_113 ⟨Nat.le_of_ble_eq_true rfl, Nat.le_of_ble_eq_true rfl⟩ (Nat.le_of_ble_eq_true rfl) (Nat.le_of_ble_eq_true rfl) ?_
          refine M_X7_digit (zst (zmr (σ.2 9) T) (σ.2 10 T) ((z + w) + 1)) (by omega) ?_
          refine z_b1 ?_
          have w6 := zdig_R (zst (zmr (σ.2 9) T) (σ.2 10 T) ((z + w) + 1))
          refine z_if_lt (tgt := 132) dX7_see_93 (by decide) (by omega) (fun c93 => ?_) (fun c93 => ?_)
          · refine z_aload_0 dX7_see_132 ?_
            refine z_iload_2 dX7_see_133 ?_
            refine z_bipush 64 dX7_see_134 (by decide +kernel) ?_
            refine z_icmp_ge (tgt := 146) dX7_see_136 (by decide) (by omega) ⟨by decide, by decide⟩ (fun c136 => ?_) (fun c136 => ?_)
            · refine z_iload_2 dX7_see_146 ?_
              refine z_bipush 64 dX7_see_147 (by decide +kernel) ?_
              refine z_isub dX7_see_149 ?_
              refine z_putI (j := 26) dX7_see_150 zp_X7_104 rfl rfl (by omega) ?_
              refine z_aload_0 dX7_see_153 ?_
              refine z_aload_0 dX7_see_154 ?_
              refine z_getI (j := 27) dX7_see_155 zf_X7_107 rfl rfl ?_
              refine z_top (b := w) ((zsF_ne (by omega)).trans zsF_eq) ?_
              refine z_iconst 2 dX7_see_158 rfl ?_
              refine z_iadd dX7_see_159 ?_
              refine z_putI (j := 27) dX7_see_160 zp_X7_107 rfl rfl (by omega) ?_
              refine z_goto (tgt := 14) dX7_see_163 (by decide) ?_
              have iP : zseeP (σ.2 1) (zmr (σ.2 9) T) (σ.2 10 T) s (z + w) := ⟨by omega, by omega, by omega, by omega⟩
              have hq := zst_lt iP.2.2.1
              have hd1 := zdig_R (zst (zmr (σ.2 9) T) (σ.2 10 T) (z + w + 1))
              have hd2 := zdig_R (zst (zmr (σ.2 9) T) (σ.2 10 T) (z + w + 2))
              have hq2 : 0 ≤ zdig (zst (zmr (σ.2 9) T) (σ.2 10 T) (z + w + 2)) → z + w + 2 < σ.2 10 T := zst_dg
              rw [zsee_3 iP (by omega) (by omega), show z + w + 2 = z + (w + 2) by omega] at h
              exact z_st (zsF_2 (by decide)) (ih _ (w + 2) _ _ (by omega) (by omega) (by omega) (by omega) (by omega) h)
            · refine z_iload_2 dX7_see_139 ?_
              refine z_bipush 64 dX7_see_140 (by decide +kernel) ?_
              refine z_iadd dX7_see_142 ?_
              refine z_goto (tgt := 150) dX7_see_143 (by decide) ?_
              refine z_putI (j := 26) dX7_see_150 zp_X7_104 rfl rfl (by omega) ?_
              refine z_aload_0 dX7_see_153 ?_
              refine z_aload_0 dX7_see_154 ?_
              refine z_getI (j := 27) dX7_see_155 zf_X7_107 rfl rfl ?_
              refine z_top (b := w) ((zsF_ne (by omega)).trans zsF_eq) ?_
              refine z_iconst 2 dX7_see_158 rfl ?_
              refine z_iadd dX7_see_159 ?_
              refine z_putI (j := 27) dX7_see_160 zp_X7_107 rfl rfl (by omega) ?_
              refine z_goto (tgt := 14) dX7_see_163 (by decide) ?_
              have iP : zseeP (σ.2 1) (zmr (σ.2 9) T) (σ.2 10 T) s (z + w) := ⟨by omega, by omega, by omega, by omega⟩
              have hq := zst_lt iP.2.2.1
              have hd1 := zdig_R (zst (zmr (σ.2 9) T) (σ.2 10 T) (z + w + 1))
              have hd2 := zdig_R (zst (zmr (σ.2 9) T) (σ.2 10 T) (z + w + 2))
              have hq2 : 0 ≤ zdig (zst (zmr (σ.2 9) T) (σ.2 10 T) (z + w + 2)) → z + w + 2 < σ.2 10 T := zst_dg
              rw [zsee_2 iP (by omega) (by omega), show z + w + 2 = z + (w + 2) by omega] at h
              exact z_st (zsF_2 (by decide)) (ih _ (w + 2) _ _ (by omega) (by omega) (by omega) (by omega) (by omega) h)
          · refine z_iload_3 dX7_see_96 ?_
            refine z_callS mX7_digit [.int (zI (zst (zmr (σ.2 9) T) (σ.2 10 T) ((z + w) + 2)))] dX7_see_97 zk_X7_digit zl_X7_113 ⟨Nat.le_of_ble_eq_true rfl, Nat.le_of_ble_eq_true rfl⟩ (Nat.le_of_ble_eq_true rfl) (Nat.le_of_ble_eq_true rfl) ?_
            refine M_X7_digit (zst (zmr (σ.2 9) T) (σ.2 10 T) ((z + w) + 2)) (by omega) ?_
            refine z_b1 ?_
            have w7 := zdig_R (zst (zmr (σ.2 9) T) (σ.2 10 T) ((z + w) + 2))
            refine z_if_lt (tgt := 132) dX7_see_100 (by decide) (by omega) (fun c100 => ?_) (fun c100 => ?_)
            · refine z_aload_0 dX7_see_132 ?_
              refine z_iload_2 dX7_see_133 ?_
              refine z_bipush 64 dX7_see_134 (by decide +kernel) ?_
              refine z_icmp_ge (tgt := 146) dX7_see_136 (by decide) (by omega) ⟨by decide, by decide⟩ (fun c136 => ?_) (fun c136 => ?_)
              · refine z_iload_2 dX7_see_146 ?_
                refine z_bipush 64 dX7_see_147 (by decide +kernel) ?_
                refine z_isub dX7_see_149 ?_
                refine z_putI (j := 26) dX7_see_150 zp_X7_104 rfl rfl (by omega) ?_
                refine z_aload_0 dX7_see_153 ?_
                refine z_aload_0 dX7_see_154 ?_
                refine z_getI (j := 27) dX7_see_155 zf_X7_107 rfl rfl ?_
                refine z_top (b := w) ((zsF_ne (by omega)).trans zsF_eq) ?_
                refine z_iconst 2 dX7_see_158 rfl ?_
                refine z_iadd dX7_see_159 ?_
                refine z_putI (j := 27) dX7_see_160 zp_X7_107 rfl rfl (by omega) ?_
                refine z_goto (tgt := 14) dX7_see_163 (by decide) ?_
                have iP : zseeP (σ.2 1) (zmr (σ.2 9) T) (σ.2 10 T) s (z + w) := ⟨by omega, by omega, by omega, by omega⟩
                have hq := zst_lt iP.2.2.1
                have hd1 := zdig_R (zst (zmr (σ.2 9) T) (σ.2 10 T) (z + w + 1))
                have hd2 := zdig_R (zst (zmr (σ.2 9) T) (σ.2 10 T) (z + w + 2))
                have hq2 : 0 ≤ zdig (zst (zmr (σ.2 9) T) (σ.2 10 T) (z + w + 2)) → z + w + 2 < σ.2 10 T := zst_dg
                rw [zsee_3 iP (by omega) (by omega), show z + w + 2 = z + (w + 2) by omega] at h
                exact z_st (zsF_2 (by decide)) (ih _ (w + 2) _ _ (by omega) (by omega) (by omega) (by omega) (by omega) h)
              · refine z_iload_2 dX7_see_139 ?_
                refine z_bipush 64 dX7_see_140 (by decide +kernel) ?_
                refine z_iadd dX7_see_142 ?_
                refine z_goto (tgt := 150) dX7_see_143 (by decide) ?_
                refine z_putI (j := 26) dX7_see_150 zp_X7_104 rfl rfl (by omega) ?_
                refine z_aload_0 dX7_see_153 ?_
                refine z_aload_0 dX7_see_154 ?_
                refine z_getI (j := 27) dX7_see_155 zf_X7_107 rfl rfl ?_
                refine z_top (b := w) ((zsF_ne (by omega)).trans zsF_eq) ?_
                refine z_iconst 2 dX7_see_158 rfl ?_
                refine z_iadd dX7_see_159 ?_
                refine z_putI (j := 27) dX7_see_160 zp_X7_107 rfl rfl (by omega) ?_
                refine z_goto (tgt := 14) dX7_see_163 (by decide) ?_
                have iP : zseeP (σ.2 1) (zmr (σ.2 9) T) (σ.2 10 T) s (z + w) := ⟨by omega, by omega, by omega, by omega⟩
                have hq := zst_lt iP.2.2.1
                have hd1 := zdig_R (zst (zmr (σ.2 9) T) (σ.2 10 T) (z + w + 1))
                have hd2 := zdig_R (zst (zmr (σ.2 9) T) (σ.2 10 T) (z + w + 2))
                have hq2 : 0 ≤ zdig (zst (zmr (σ.2 9) T) (σ.2 10 T) (z + w + 2)) → z + w + 2 < σ.2 10 T := zst_dg
                rw [zsee_2 iP (by omega) (by omega), show z + w + 2 = z + (w + 2) by omega] at h
                exact z_st (zsF_2 (by decide)) (ih _ (w + 2) _ _ (by omega) (by omega) (by omega) (by omega) (by omega) h)
            · refine z_aload_0 dX7_see_103 ?_
              refine z_bipush 16 dX7_see_104 (by decide +kernel) ?_
              refine z_iload_2 dX7_see_106 ?_
              refine z_callS mX7_digit [.int (zI (zst (zmr (σ.2 9) T) (σ.2 10 T) ((z + w) + 1)))] dX7_see_107 zk_X7_digit zl_X7_113 ⟨Nat.le_of_ble_eq_true rfl, Nat.le_of_ble_eq_true rfl⟩ (Nat.le_of_ble_eq_true rfl) (Nat.le_of_ble_eq_true rfl) ?_
              refine M_X7_digit (zst (zmr (σ.2 9) T) (σ.2 10 T) ((z + w) + 1)) (by omega) ?_
              refine z_b1 ?_
              have w8 := zdig_R (zst (zmr (σ.2 9) T) (σ.2 10 T) ((z + w) + 1))
              refine z_imul dX7_see_110 ?_
              refine z_iload_3 dX7_see_111 ?_
              refine z_callS mX7_digit [.int (zI (zst (zmr (σ.2 9) T) (σ.2 10 T) ((z + w) + 2)))] dX7_see_112 zk_X7_digit zl_X7_113 ⟨Nat.le_of_ble_eq_true rfl, Nat.le_of_ble_eq_true rfl⟩ (Nat.le_of_ble_eq_true rfl) (Nat.le_of_ble_eq_true rfl) ?_
              refine M_X7_digit (zst (zmr (σ.2 9) T) (σ.2 10 T) ((z + w) + 2)) (by omega) ?_
              refine z_b1 ?_
              have w9 := zdig_R (zst (zmr (σ.2 9) T) (σ.2 10 T) ((z + w) + 2))
              refine z_iadd dX7_see_115 ?_
              refine z_putI (j := 26) dX7_see_116 zp_X7_104 rfl rfl (by omega) ?_
              refine z_aload_0 dX7_see_119 ?_
              refine z_aload_0 dX7_see_120 ?_
              refine z_getI (j := 27) dX7_see_121 zf_X7_107 rfl rfl ?_
              refine z_top (b := w) ((zsF_ne (by omega)).trans zsF_eq) ?_
              refine z_iconst 3 dX7_see_124 rfl ?_
              refine z_iadd dX7_see_125 ?_
              refine z_putI (j := 27) dX7_see_126 zp_X7_107 rfl rfl (by omega) ?_
              refine z_goto (tgt := 163) dX7_see_129 (by decide) ?_
              refine z_goto (tgt := 14) dX7_see_163 (by decide) ?_
              have iP : zseeP (σ.2 1) (zmr (σ.2 9) T) (σ.2 10 T) s (z + w) := ⟨by omega, by omega, by omega, by omega⟩
              have hq := zst_lt iP.2.2.1
              have hd1 := zdig_R (zst (zmr (σ.2 9) T) (σ.2 10 T) (z + w + 1))
              have hd2 := zdig_R (zst (zmr (σ.2 9) T) (σ.2 10 T) (z + w + 2))
              have hq2 : 0 ≤ zdig (zst (zmr (σ.2 9) T) (σ.2 10 T) (z + w + 2)) → z + w + 2 < σ.2 10 T := zst_dg
              rw [zsee_1 iP (by omega) (by omega), show z + w + 3 = z + (w + 3) by omega] at h
              exact z_st (zsF_2 (by decide)) (ih _ (w + 3) _ _ (by omega) (by omega) (by omega) (by omega) (by omega) h)
        · refine z_b1 ?_
          refine z_if_eq (tgt := 166) dX7_see_60 (by decide) ⟨by decide, by decide⟩ (fun c60 => ?_) (fun c60 => by exfalso; omega)
          refine z_vret dX7_see_166 rfl ?_
          rw [zsee_0 (fun q => by obtain ⟨q1, q2, q3, q4⟩ := q; omega), show z + w - z = w by omega] at h
          exact h

set_option maxRecDepth 100000 in
theorem M_X7_see {G : zG} {σ : zSt} {Post : Option Value → zSt → Prop} (T : Int) (hT0 : 0 ≤ T) (hT6 : T < 6) (hT : σ.1 0 10 = T + 1) (z : Int) (hz0 : 0 ≤ z) (hz : z < σ.2 10 T) (hl : σ.2 10 T ≤ 121) (hrw : ∀ q, 0 ≤ σ.2 9 q ∧ σ.2 9 q ≤ 255) (h : Post none (zsF (zsF σ 0 26 (zsee (σ.2 1) (zmr (σ.2 9) T) (σ.2 10 T) ((σ.2 10 T)).toNat (zst (zmr (σ.2 9) T) (σ.2 10 T) z) (z + 1)).1) 0 27 ((zsee (σ.2 1) (zmr (σ.2 9) T) (σ.2 10 T) ((σ.2 10 T)).toNat (zst (zmr (σ.2 9) T) (σ.2 10 T) z) (z + 1)).2 - z))) : zV G shM mX7_see 0 (zini 4 [.ref (zad G 0), .int (zI z)]) [] σ Post := by
  refine z_rg (fun hR => ?_)
  refine z_lv (lv' := [some (.ref (zad G 0)), some (.int (zI z)), none, none]) rfl ?_
  have hz1 : zst (zmr (σ.2 9) T) (σ.2 10 T) z = σ.2 9 (128 * T + z) := zst_in hz0 hz
  have hrw1 := hrw (128 * T + z)
  refine z_aload_0 dX7_see_0 ?_
  refine z_aload_0 dX7_see_1 ?_
  refine z_iload_1 dX7_see_2 ?_
  refine z_callV mX7_standing [.int (zI z)] dX7_see_3 zk_X7_standing zl_X7_100 ⟨Nat.le_of_ble_eq_true rfl, Nat.le_of_ble_eq_true rfl⟩ rfl rfl (Nat.le_of_ble_eq_true rfl) (Nat.le_of_ble_eq_true rfl) ?_
  refine M_X7_standing T hT0 hT6 (by omega) z (by omega) (by omega) (by omega) ?_
  refine z_b1 ?_
  have w1 := zst_R (zmr (σ.2 9) T) (σ.2 10 T) z (fun q => hR.2 9 _)
  refine z_putI (j := 26) dX7_see_6 zp_X7_104 rfl rfl (by omega) ?_
  refine z_aload_0 dX7_see_9 ?_
  refine z_iconst 1 dX7_see_10 rfl ?_
  refine z_putI (j := 27) dX7_see_11 zp_X7_107 rfl rfl ⟨by decide, by decide⟩ ?_
  exact L_X7_see T hT0 hT6 hT z hR hz0 hl hrw (σ.2 10 T).toNat (zst (zmr (σ.2 9) T) (σ.2 10 T) z) 1 none none (by omega) (by omega) (by omega) (by omega) (by omega) h

set_option maxRecDepth 100000 in
theorem M_X7_addToWord {G : zG} {σ : zSt} {Post : Option Value → zSt → Prop} (n : Int) (hn0 : 0 ≤ n) (hn : n ≤ 1000) (h1 : n < 40 → Post none (zsF (zsA σ 18 n (σ.1 0 26)) 0 29 (n + 1))) (h0 : 40 ≤ n → Post none σ) : zV G shM mX7_addToWord 0 (zini 2 [.ref (zad G 0), .int (zI n)]) [] σ Post := by
  refine z_rg (fun hR => ?_)
  refine z_lv (lv' := [some (.ref (zad G 0)), some (.int (zI n))]) rfl ?_
  refine z_iload_1 dX7_addToWord_0 ?_
  refine z_bipush 40 dX7_addToWord_1 (by decide +kernel) ?_
  refine z_icmp_ge (tgt := 23) dX7_addToWord_3 (by decide) (by omega) ⟨by decide, by decide⟩ (fun c3 => ?_) (fun c3 => ?_)
  · refine z_vret dX7_addToWord_23 rfl ?_
    first | exact h1 (by omega) | exact h0 (by omega)
  · refine z_aload_0 dX7_addToWord_6 ?_
    refine z_getR (j := 28) dX7_addToWord_7 zf_X7_66 rfl rfl ?_
    refine z_iload_1 dX7_addToWord_10 ?_
    refine z_aload_0 dX7_addToWord_11 ?_
    refine z_getI (j := 26) dX7_addToWord_12 zf_X7_104 rfl rfl ?_
    have w1 : zR (σ.1 0 26) := hR.1 0 26
    refine z_iast dX7_addToWord_15 rfl (by decide) (by omega) (by omega) (by omega) ?_
    refine z_aload_0 dX7_addToWord_16 ?_
    refine z_iload_1 dX7_addToWord_17 ?_
    refine z_iconst 1 dX7_addToWord_18 rfl ?_
    refine z_iadd dX7_addToWord_19 ?_
    refine z_putI (j := 29) dX7_addToWord_20 zp_X7_122 rfl rfl (by omega) ?_
    refine z_vret dX7_addToWord_23 rfl ?_
    first | exact h1 (by omega) | exact h0 (by omega)

set_option maxRecDepth 100000 in
theorem M_X7_tell {G : zG} {σ : zSt} {Post : Option Value → zSt → Prop} (a c : Int) (ha : zR a) (hc : zR c) (hs0 : 0 ≤ σ.1 0 24) (hs : σ.1 0 24 < 2147483647) (h1 : σ.1 0 24 < 100 → Post none (zsF (zrp σ 17 (3 * σ.1 0 24) a (σ.1 0 19) c) 0 24 (σ.1 0 24 + 1))) (h0 : 100 ≤ σ.1 0 24 → Post none (zsF σ 0 24 (σ.1 0 24 + 1))) : zV G shM mX7_tell 0 (zini 3 [.ref (zad G 0), .int (zI a), .int (zI c)]) [] σ Post := by
  refine z_rg (fun hR => ?_)
  refine z_lv (lv' := [some (.ref (zad G 0)), some (.int (zI a)), some (.int (zI c))]) rfl ?_
  refine z_aload_0 dX7_tell_0 ?_
  refine z_getI (j := 24) dX7_tell_1 zf_X7_116 rfl rfl ?_
  have w1 : zR (σ.1 0 24) := hR.1 0 24
  refine z_bipush 100 dX7_tell_4 (by decide +kernel) ?_
  refine z_icmp_ge (tgt := 52) dX7_tell_6 (by decide) (by omega) ⟨by decide, by decide⟩ (fun c6 => ?_) (fun c6 => ?_)
  · refine z_aload_0 dX7_tell_52 ?_
    refine z_dup dX7_tell_53 rfl ?_
    refine z_getI (j := 24) dX7_tell_54 zf_X7_116 rfl rfl ?_
    have w2 : zR (σ.1 0 24) := hR.1 0 24
    refine z_iconst 1 dX7_tell_57 rfl ?_
    refine z_iadd dX7_tell_58 ?_
    refine z_putI (j := 24) dX7_tell_59 zp_X7_116 rfl rfl (by omega) ?_
    refine z_vret dX7_tell_62 rfl ?_
    first | exact h1 (by omega) | exact h0 (by omega)
  · refine z_aload_0 dX7_tell_9 ?_
    refine z_getR (j := 25) dX7_tell_10 zf_X7_63 rfl rfl ?_
    refine z_iconst 3 dX7_tell_13 rfl ?_
    refine z_aload_0 dX7_tell_14 ?_
    refine z_getI (j := 24) dX7_tell_15 zf_X7_116 rfl rfl ?_
    have w3 : zR (σ.1 0 24) := hR.1 0 24
    refine z_imul dX7_tell_18 ?_
    refine z_iload_1 dX7_tell_19 ?_
    refine z_iast dX7_tell_20 rfl (by decide) (by omega) (by omega) (by omega) ?_
    refine z_aload_0 dX7_tell_21 ?_
    refine z_getR (j := 25) dX7_tell_22 zf_X7_63 rfl rfl ?_
    refine z_iconst 3 dX7_tell_25 rfl ?_
    refine z_aload_0 dX7_tell_26 ?_
    refine z_getI (j := 24) dX7_tell_27 zf_X7_116 rfl rfl ?_
    refine z_top (b := σ.1 0 24) zsA_F ?_
    have w4 : zR (σ.1 0 24) := hR.1 0 24
    refine z_imul dX7_tell_30 ?_
    refine z_iconst 1 dX7_tell_31 rfl ?_
    refine z_iadd dX7_tell_32 ?_
    refine z_aload_0 dX7_tell_33 ?_
    refine z_getI (j := 19) dX7_tell_34 zf_X7_119 rfl rfl ?_
    refine z_top (b := σ.1 0 19) zsA_F ?_
    have w5 : zR (σ.1 0 19) := hR.1 0 19
    refine z_iast dX7_tell_37 rfl (by decide) (by omega) (by omega) (by omega) ?_
    refine z_aload_0 dX7_tell_38 ?_
    refine z_getR (j := 25) dX7_tell_39 zf_X7_63 rfl rfl ?_
    refine z_iconst 3 dX7_tell_42 rfl ?_
    refine z_aload_0 dX7_tell_43 ?_
    refine z_getI (j := 24) dX7_tell_44 zf_X7_116 rfl rfl ?_
    refine z_top (b := σ.1 0 24) (zsA_F.trans zsA_F) ?_
    have w6 : zR (σ.1 0 24) := hR.1 0 24
    refine z_imul dX7_tell_47 ?_
    refine z_iconst 2 dX7_tell_48 rfl ?_
    refine z_iadd dX7_tell_49 ?_
    refine z_iload_2 dX7_tell_50 ?_
    refine z_iast dX7_tell_51 rfl (by decide) (by omega) (by omega) (by omega) ?_
    refine z_aload_0 dX7_tell_52 ?_
    refine z_dup dX7_tell_53 rfl ?_
    refine z_getI (j := 24) dX7_tell_54 zf_X7_116 rfl rfl ?_
    refine z_top (b := σ.1 0 24) (zsA_F.trans (zsA_F.trans zsA_F)) ?_
    have w7 : zR (σ.1 0 24) := hR.1 0 24
    refine z_iconst 1 dX7_tell_57 rfl ?_
    refine z_iadd dX7_tell_58 ?_
    refine z_putI (j := 24) dX7_tell_59 zp_X7_116 rfl rfl (by omega) ?_
    refine z_vret dX7_tell_62 rfl ?_
    first | exact h1 (by omega) | exact h0 (by omega)

set_option maxRecDepth 100000 in
theorem M_X7_keep {G : zG} {σ : zSt} {Post : Option Value → zSt → Prop} (T : Int) (hT0 : 0 ≤ T) (hT6 : T < 6) (hT : σ.1 0 10 = T + 1) (k v c p : Int) (hk : zR k) (hv : zR v) (hc : zR c) (hp : zR p) (hs0 : 0 ≤ σ.1 0 19) (hs : σ.1 0 19 < 600) (h : Post (some (.int (zI (σ.1 0 19)))) (zsF (zpt σ 14 (6 * σ.1 0 19) k v c (σ.2 7 T) (σ.2 8 T) p) 0 19 (σ.1 0 19 + 1))) : zV G shM mX7_keep 0 (zini 6 [.ref (zad G 0), .int (zI k), .int (zI v), .int (zI c), .int (zI p)]) [] σ Post := by
  refine z_rg (fun hR => ?_)
  refine z_lv (lv' := [some (.ref (zad G 0)), some (.int (zI k)), some (.int (zI v)), some (.int (zI c)), some (.int (zI p)), none]) rfl ?_
  refine z_aload_0 dX7_keep_0 ?_
  refine z_getI (j := 10) dX7_keep_1 zf_X7_90 rfl rfl ?_
  have w1 : zR (σ.1 0 10) := hR.1 0 10
  refine z_iconst 1 dX7_keep_4 rfl ?_
  refine z_isub dX7_keep_5 ?_
  refine z_top (b := T) (by omega) ?_
  refine z_istore_5 dX7_keep_6 (Nat.le_of_ble_eq_true rfl) rfl ?_
  refine z_aload_0 dX7_keep_8 ?_
  refine z_getR (j := 20) dX7_keep_9 zf_X7_54 rfl rfl ?_
  refine z_bipush 6 dX7_keep_12 (by decide +kernel) ?_
  refine z_aload_0 dX7_keep_14 ?_
  refine z_getI (j := 19) dX7_keep_15 zf_X7_119 rfl rfl ?_
  have w2 : zR (σ.1 0 19) := hR.1 0 19
  refine z_imul dX7_keep_18 ?_
  refine z_iload_1 dX7_keep_19 ?_
  refine z_iast dX7_keep_20 rfl (by decide) (by omega) (by omega) (by omega) ?_
  refine z_aload_0 dX7_keep_21 ?_
  refine z_getR (j := 20) dX7_keep_22 zf_X7_54 rfl rfl ?_
  refine z_bipush 6 dX7_keep_25 (by decide +kernel) ?_
  refine z_aload_0 dX7_keep_27 ?_
  refine z_getI (j := 19) dX7_keep_28 zf_X7_119 rfl rfl ?_
  refine z_top (b := σ.1 0 19) zsA_F ?_
  have w3 : zR (σ.1 0 19) := hR.1 0 19
  refine z_imul dX7_keep_31 ?_
  refine z_iconst 1 dX7_keep_32 rfl ?_
  refine z_iadd dX7_keep_33 ?_
  refine z_iload_2 dX7_keep_34 ?_
  refine z_iast dX7_keep_35 rfl (by decide) (by omega) (by omega) (by omega) ?_
  refine z_aload_0 dX7_keep_36 ?_
  refine z_getR (j := 20) dX7_keep_37 zf_X7_54 rfl rfl ?_
  refine z_bipush 6 dX7_keep_40 (by decide +kernel) ?_
  refine z_aload_0 dX7_keep_42 ?_
  refine z_getI (j := 19) dX7_keep_43 zf_X7_119 rfl rfl ?_
  refine z_top (b := σ.1 0 19) (zsA_F.trans zsA_F) ?_
  have w4 : zR (σ.1 0 19) := hR.1 0 19
  refine z_imul dX7_keep_46 ?_
  refine z_iconst 2 dX7_keep_47 rfl ?_
  refine z_iadd dX7_keep_48 ?_
  refine z_iload_3 dX7_keep_49 ?_
  refine z_iast dX7_keep_50 rfl (by decide) (by omega) (by omega) (by omega) ?_
  refine z_aload_0 dX7_keep_51 ?_
  refine z_getR (j := 20) dX7_keep_52 zf_X7_54 rfl rfl ?_
  refine z_bipush 6 dX7_keep_55 (by decide +kernel) ?_
  refine z_aload_0 dX7_keep_57 ?_
  refine z_getI (j := 19) dX7_keep_58 zf_X7_119 rfl rfl ?_
  refine z_top (b := σ.1 0 19) (zsA_F.trans (zsA_F.trans zsA_F)) ?_
  have w5 : zR (σ.1 0 19) := hR.1 0 19
  refine z_imul dX7_keep_61 ?_
  refine z_iconst 3 dX7_keep_62 rfl ?_
  refine z_iadd dX7_keep_63 ?_
  refine z_aload_0 dX7_keep_64 ?_
  refine z_getR (j := 11) dX7_keep_65 zf_X7_33 rfl rfl ?_
  refine z_iload_5 dX7_keep_68 ?_
  refine z_iald dX7_keep_70 rfl (by decide) (by omega) (by omega) ?_
  refine z_top (b := σ.2 7 T) ((zsA_ne1 (by omega)).trans ((zsA_ne1 (by omega)).trans (zsA_ne1 (by omega)))) ?_
  have w6 : zR (σ.2 7 T) := hR.2 7 T
  refine z_iast dX7_keep_71 rfl (by decide) (by omega) (by omega) (by omega) ?_
  refine z_aload_0 dX7_keep_72 ?_
  refine z_getR (j := 20) dX7_keep_73 zf_X7_54 rfl rfl ?_
  refine z_bipush 6 dX7_keep_76 (by decide +kernel) ?_
  refine z_aload_0 dX7_keep_78 ?_
  refine z_getI (j := 19) dX7_keep_79 zf_X7_119 rfl rfl ?_
  refine z_top (b := σ.1 0 19) (zsA_F.trans (zsA_F.trans (zsA_F.trans zsA_F))) ?_
  have w7 : zR (σ.1 0 19) := hR.1 0 19
  refine z_imul dX7_keep_82 ?_
  refine z_iconst 4 dX7_keep_83 rfl ?_
  refine z_iadd dX7_keep_84 ?_
  refine z_aload_0 dX7_keep_85 ?_
  refine z_getR (j := 12) dX7_keep_86 zf_X7_36 rfl rfl ?_
  refine z_iload_5 dX7_keep_89 ?_
  refine z_iald dX7_keep_91 rfl (by decide) (by omega) (by omega) ?_
  refine z_top (b := σ.2 8 T) ((zsA_ne1 (by omega)).trans ((zsA_ne1 (by omega)).trans ((zsA_ne1 (by omega)).trans (zsA_ne1 (by omega))))) ?_
  have w8 : zR (σ.2 8 T) := hR.2 8 T
  refine z_iast dX7_keep_92 rfl (by decide) (by omega) (by omega) (by omega) ?_
  refine z_aload_0 dX7_keep_93 ?_
  refine z_getR (j := 20) dX7_keep_94 zf_X7_54 rfl rfl ?_
  refine z_bipush 6 dX7_keep_97 (by decide +kernel) ?_
  refine z_aload_0 dX7_keep_99 ?_
  refine z_getI (j := 19) dX7_keep_100 zf_X7_119 rfl rfl ?_
  refine z_top (b := σ.1 0 19) (zsA_F.trans (zsA_F.trans (zsA_F.trans (zsA_F.trans zsA_F)))) ?_
  have w9 : zR (σ.1 0 19) := hR.1 0 19
  refine z_imul dX7_keep_103 ?_
  refine z_iconst 5 dX7_keep_104 rfl ?_
  refine z_iadd dX7_keep_105 ?_
  refine z_iload_4 dX7_keep_106 ?_
  refine z_iast dX7_keep_108 rfl (by decide) (by omega) (by omega) (by omega) ?_
  refine z_aload_0 dX7_keep_109 ?_
  refine z_dup dX7_keep_110 rfl ?_
  refine z_getI (j := 19) dX7_keep_111 zf_X7_119 rfl rfl ?_
  refine z_top (b := σ.1 0 19) (zsA_F.trans (zsA_F.trans (zsA_F.trans (zsA_F.trans (zsA_F.trans zsA_F))))) ?_
  have w10 : zR (σ.1 0 19) := hR.1 0 19
  refine z_iconst 1 dX7_keep_114 rfl ?_
  refine z_iadd dX7_keep_115 ?_
  refine z_putI (j := 19) dX7_keep_116 zp_X7_119 rfl rfl (by omega) ?_
  refine z_aload_0 dX7_keep_119 ?_
  refine z_getI (j := 19) dX7_keep_120 zf_X7_119 rfl rfl ?_
  refine z_top (b := ((σ.1 0 19) + 1)) zsF_eq ?_
  refine z_iconst 1 dX7_keep_123 rfl ?_
  refine z_isub dX7_keep_124 ?_
  refine z_iret dX7_keep_125 rfl ?_
  exact zPe h (by omega)
end
section
set_option maxRecDepth 100000 in
theorem L_X7_begin1 {G : zG} {σ : zSt} {Post : Option Value → zSt → Prop} (T l : Int) (hR : zRg σ) (hl0 : 0 ≤ l) (hl : l < 240) : ∀ (m : Nat) (L : Int) (hL : L = (m : Int)) (hm : m ≤ 120) (h : zV G shM mX7_begin 35 [some (.ref (zad G 0)), some (.int (zI T)), some (.int (zI l)), some (.int (zI ((ztr (fun q => σ.2 6 (120 * l + q)) m : Nat) : Int))), none] [] σ Post), zV G shM mX7_begin 7 [some (.ref (zad G 0)), some (.int (zI T)), some (.int (zI l)), some (.int (zI L)), none] [] σ Post := by
  intro m
  induction m with
  | zero =>
    intro L hL hm h
    refine z_iload_3 dX7_begin_7 ?_
    refine z_if_le (tgt := 35) dX7_begin_8 (by decide) (by omega) (fun c8 => ?_) (fun c8 => by exfalso; omega)
    have e : ((ztr (fun q => σ.2 6 (120 * l + q)) 0 : Nat) : Int) = L := by rw [ztr]; omega
    rw [e] at h
    exact h
  | succ m ih =>
    intro L hL hm h
    refine z_iload_3 dX7_begin_7 ?_
    refine z_if_le (tgt := 35) dX7_begin_8 (by decide) (by omega) (fun c8 => by exfalso; omega) (fun c8 => ?_)
    refine z_aload_0 dX7_begin_11 ?_
    refine z_getR (j := 9) dX7_begin_12 zf_X7_30 rfl rfl ?_
    refine z_bipush 120 dX7_begin_15 (by decide +kernel) ?_
    refine z_iload_2 dX7_begin_17 ?_
    refine z_imul dX7_begin_18 ?_
    refine z_iload_3 dX7_begin_19 ?_
    refine z_iadd dX7_begin_20 ?_
    refine z_iconst 1 dX7_begin_21 rfl ?_
    refine z_isub dX7_begin_22 ?_
    refine z_iald dX7_begin_23 rfl (by decide) (by omega) (by omega) ?_
    have w1 : zR (σ.2 6 (((120 * l) + L) - 1)) := hR.2 6 (((120 * l) + L) - 1)
    refine z_bipush 32 dX7_begin_24 (by decide +kernel) ?_
    refine z_icmp_ne (tgt := 35) dX7_begin_26 (by decide) (by omega) ⟨by decide, by decide⟩ (fun c26 => ?_) (fun c26 => ?_)
    · have e0 : σ.2 6 (120 * l + (m : Int)) ≠ 32 := by rw [show 120 * l + (m : Int) = 120 * l + L - 1 by omega]; omega
      have e : ((ztr (fun q => σ.2 6 (120 * l + q)) (m + 1) : Nat) : Int) = L := by rw [ztr_ne e0]; omega
      rw [e] at h
      exact h
    · refine z_iinc_3 dX7_begin_29 (Nat.le_of_ble_eq_true rfl) rfl ?_
      refine z_goto (tgt := 7) dX7_begin_32 (by decide) ?_
      have e0 : σ.2 6 (120 * l + (m : Int)) = 32 := by rw [show 120 * l + (m : Int) = 120 * l + L - 1 by omega]; omega
      rw [ztr_eq e0] at h
      exact ih (L + (-1)) (by omega) (by omega) h

set_option maxRecDepth 100000 in
theorem L_X7_begin2 {G : zG} {σ : zSt} {Post : Option Value → zSt → Prop} (T l n : Int) (hR : zRg σ) (hl0 : 0 ≤ l) (hl : l < 240) (hT0 : 0 ≤ T) (hT6 : T < 6) (hn0 : 0 ≤ n) (hn : n ≤ 120) (h : zV G shM mX7_begin 75 [some (.ref (zad G 0)), some (.int (zI T)), some (.int (zI l)), some (.int (zI n)), some (.int (zI n))] [] (zsB σ 9 (128 * T) n (fun q => σ.2 6 (120 * l + q))) Post) : ∀ (m : Nat) (i : Int) (hi0 : 0 ≤ i) (him : i + m = n), zV G shM mX7_begin 38 [some (.ref (zad G 0)), some (.int (zI T)), some (.int (zI l)), some (.int (zI n)), some (.int (zI i))] [] (zsB σ 9 (128 * T) i (fun q => σ.2 6 (120 * l + q))) Post := by
  intro m
  induction m with
  | zero =>
    intro i hi0 him
    refine z_iload_4 dX7_begin_38 ?_
    refine z_iload_3 dX7_begin_40 ?_
    refine z_icmp_ge (tgt := 75) dX7_begin_41 (by decide) (by omega) (by omega) (fun c41 => ?_) (fun c41 => by exfalso; omega)
    have e : i = n := by omega
    subst e
    exact h
  | succ m ih =>
    intro i hi0 him
    refine z_iload_4 dX7_begin_38 ?_
    refine z_iload_3 dX7_begin_40 ?_
    refine z_icmp_ge (tgt := 75) dX7_begin_41 (by decide) (by omega) (by omega) (fun c41 => by exfalso; omega) (fun c41 => ?_)
    refine z_aload_0 dX7_begin_44 ?_
    refine z_getR (j := 13) dX7_begin_45 zf_X7_39 rfl rfl ?_
    refine z_sipush 128 dX7_begin_48 (by decide +kernel) ?_
    refine z_iload_1 dX7_begin_51 ?_
    refine z_imul dX7_begin_52 ?_
    refine z_iload_4 dX7_begin_53 ?_
    refine z_iadd dX7_begin_55 ?_
    refine z_aload_0 dX7_begin_56 ?_
    refine z_getR (j := 9) dX7_begin_57 zf_X7_30 rfl rfl ?_
    refine z_bipush 120 dX7_begin_60 (by decide +kernel) ?_
    refine z_iload_2 dX7_begin_62 ?_
    refine z_imul dX7_begin_63 ?_
    refine z_iload_4 dX7_begin_64 ?_
    refine z_iadd dX7_begin_66 ?_
    refine z_iald dX7_begin_67 rfl (by decide) (by omega) (by omega) ?_
    refine z_top (b := σ.2 6 ((120 * l) + i)) (zsB_ne1 (by omega)) ?_
    have w1 : zR (σ.2 6 ((120 * l) + i)) := hR.2 6 ((120 * l) + i)
    refine z_iast dX7_begin_68 rfl (by decide) (by omega) (by omega) (by omega) ?_
    refine z_iinc_4 dX7_begin_69 (Nat.le_of_ble_eq_true rfl) rfl ?_
    refine z_goto (tgt := 38) dX7_begin_72 (by decide) ?_
    exact z_st (zsB_S hi0 (by omega) rfl) (ih (i + 1) (by omega) (by omega))

set_option maxRecDepth 100000 in
theorem M_X7_begin {G : zG} {σ : zSt} {Post : Option Value → zSt → Prop} (T l : Int) (hT0 : 0 ≤ T) (hT6 : T < 6) (hl0 : 0 ≤ l) (hl : l < 240) (hln : ∀ q, 0 ≤ σ.2 5 q ∧ σ.2 5 q ≤ 120) (hbg0 : 0 ≤ σ.1 0 18) (hbg : σ.1 0 18 ≤ 2000000000) (h1 : 0 ≤ σ.1 0 5 → Post none (zsF (zsA (zsA (zsA (zsA (zsB σ 9 (128 * T) ((ztr (fun q => σ.2 6 (120 * l + q)) (σ.2 5 l).toNat : Nat) : Int) (fun q => σ.2 6 (120 * l + q))) 9 (128 * T + ((ztr (fun q => σ.2 6 (120 * l + q)) (σ.2 5 l).toNat : Nat) : Int)) (σ.1 0 5)) 10 T (((ztr (fun q => σ.2 6 (120 * l + q)) (σ.2 5 l).toNat : Nat) : Int) + 1)) 11 T 0) 12 T 0) 0 18 (σ.1 0 18 + 1))) (h0 : σ.1 0 5 < 0 → Post none (zsF (zsA (zsA (zsA (zsB σ 9 (128 * T) ((ztr (fun q => σ.2 6 (120 * l + q)) (σ.2 5 l).toNat : Nat) : Int) (fun q => σ.2 6 (120 * l + q))) 10 T (((ztr (fun q => σ.2 6 (120 * l + q)) (σ.2 5 l).toNat : Nat) : Int))) 11 T 0) 12 T 0) 0 18 (σ.1 0 18 + 1))) : zV G shM mX7_begin 0 (zini 5 [.ref (zad G 0), .int (zI T), .int (zI l)]) [] σ Post := by
  refine z_rg (fun hR => ?_)
  refine z_lv (lv' := [some (.ref (zad G 0)), some (.int (zI T)), some (.int (zI l)), none, none]) rfl ?_
  have hln1 := hln l
  refine z_aload_0 dX7_begin_0 ?_
  refine z_getR (j := 8) dX7_begin_1 zf_X7_27 rfl rfl ?_
  refine z_iload_2 dX7_begin_4 ?_
  refine z_iald dX7_begin_5 rfl (by decide) (by omega) (by omega) ?_
  have w1 : zR (σ.2 5 l) := hR.2 5 l
  refine z_istore_3 dX7_begin_6 (Nat.le_of_ble_eq_true rfl) rfl ?_
  have hz := ztr_le (fun q => σ.2 6 (120 * l + q)) (σ.2 5 l).toNat
  refine L_X7_begin1 T l hR hl0 hl (σ.2 5 l).toNat (σ.2 5 l) (by omega) (by omega) ?_
  refine z_iconst 0 dX7_begin_35 rfl ?_
  refine z_istore_4 dX7_begin_36 (Nat.le_of_ble_eq_true rfl) rfl ?_
  refine z_st zsB_0.symm (L_X7_begin2 T l _ hR hl0 hl hT0 hT6 (by omega) (by omega) ?_ (ztr (fun q => σ.2 6 (120 * l + q)) (σ.2 5 l).toNat) 0 (by omega) (by omega))
  refine z_aload_0 dX7_begin_75 ?_
  refine z_getI (j := 5) dX7_begin_76 zf_X7_20 rfl rfl ?_
  refine z_top (b := σ.1 0 5) zsB_F ?_
  have w2 : zR (σ.1 0 5) := hR.1 0 5
  refine z_if_lt (tgt := 101) dX7_begin_79 (by decide) (by omega) (fun c79 => ?_) (fun c79 => ?_)
  · refine z_aload_0 dX7_begin_101 ?_
    refine z_getR (j := 14) dX7_begin_102 zf_X7_42 rfl rfl ?_
    refine z_iload_1 dX7_begin_105 ?_
    refine z_iload_3 dX7_begin_106 ?_
    refine z_iast dX7_begin_107 rfl (by decide) (by omega) (by omega) (by omega) ?_
    refine z_aload_0 dX7_begin_108 ?_
    refine z_getR (j := 15) dX7_begin_109 zf_X7_45 rfl rfl ?_
    refine z_iload_1 dX7_begin_112 ?_
    refine z_iconst 0 dX7_begin_113 rfl ?_
    refine z_iast dX7_begin_114 rfl (by decide) (by omega) (by omega) ⟨by decide, by decide⟩ ?_
    refine z_aload_0 dX7_begin_115 ?_
    refine z_getR (j := 16) dX7_begin_116 zf_X7_48 rfl rfl ?_
    refine z_iload_1 dX7_begin_119 ?_
    refine z_iconst 0 dX7_begin_120 rfl ?_
    refine z_iast dX7_begin_121 rfl (by decide) (by omega) (by omega) ⟨by decide, by decide⟩ ?_
    refine z_aload_0 dX7_begin_122 ?_
    refine z_dup dX7_begin_123 rfl ?_
    refine z_getI (j := 18) dX7_begin_124 zf_X7_97 rfl rfl ?_
    refine z_top (b := σ.1 0 18) (zsA_F.trans (zsA_F.trans (zsA_F.trans zsB_F))) ?_
    have w3 : zR (σ.1 0 18) := hR.1 0 18
    refine z_iconst 1 dX7_begin_127 rfl ?_
    refine z_iadd dX7_begin_128 ?_
    refine z_putI (j := 18) dX7_begin_129 zp_X7_97 rfl rfl (by omega) ?_
    refine z_vret dX7_begin_132 rfl ?_
    first | exact h1 (by omega) | exact h0 (by omega)
  · refine z_aload_0 dX7_begin_82 ?_
    refine z_getR (j := 13) dX7_begin_83 zf_X7_39 rfl rfl ?_
    refine z_sipush 128 dX7_begin_86 (by decide +kernel) ?_
    refine z_iload_1 dX7_begin_89 ?_
    refine z_imul dX7_begin_90 ?_
    refine z_iload_3 dX7_begin_91 ?_
    refine z_iadd dX7_begin_92 ?_
    refine z_aload_0 dX7_begin_93 ?_
    refine z_getI (j := 5) dX7_begin_94 zf_X7_20 rfl rfl ?_
    refine z_top (b := σ.1 0 5) zsB_F ?_
    have w4 : zR (σ.1 0 5) := hR.1 0 5
    refine z_iast dX7_begin_97 rfl (by decide) (by omega) (by omega) (by omega) ?_
    refine z_iinc_3 dX7_begin_98 (Nat.le_of_ble_eq_true rfl) rfl ?_
    refine z_aload_0 dX7_begin_101 ?_
    refine z_getR (j := 14) dX7_begin_102 zf_X7_42 rfl rfl ?_
    refine z_iload_1 dX7_begin_105 ?_
    refine z_iload_3 dX7_begin_106 ?_
    refine z_iast dX7_begin_107 rfl (by decide) (by omega) (by omega) (by omega) ?_
    refine z_aload_0 dX7_begin_108 ?_
    refine z_getR (j := 15) dX7_begin_109 zf_X7_45 rfl rfl ?_
    refine z_iload_1 dX7_begin_112 ?_
    refine z_iconst 0 dX7_begin_113 rfl ?_
    refine z_iast dX7_begin_114 rfl (by decide) (by omega) (by omega) ⟨by decide, by decide⟩ ?_
    refine z_aload_0 dX7_begin_115 ?_
    refine z_getR (j := 16) dX7_begin_116 zf_X7_48 rfl rfl ?_
    refine z_iload_1 dX7_begin_119 ?_
    refine z_iconst 0 dX7_begin_120 rfl ?_
    refine z_iast dX7_begin_121 rfl (by decide) (by omega) (by omega) ⟨by decide, by decide⟩ ?_
    refine z_aload_0 dX7_begin_122 ?_
    refine z_dup dX7_begin_123 rfl ?_
    refine z_getI (j := 18) dX7_begin_124 zf_X7_97 rfl rfl ?_
    refine z_top (b := σ.1 0 18) (zsA_F.trans (zsA_F.trans (zsA_F.trans (zsA_F.trans zsB_F)))) ?_
    have w5 : zR (σ.1 0 18) := hR.1 0 18
    refine z_iconst 1 dX7_begin_127 rfl ?_
    refine z_iadd dX7_begin_128 ?_
    refine z_putI (j := 18) dX7_begin_129 zp_X7_97 rfl rfl (by omega) ?_
    refine z_vret dX7_begin_132 rfl ?_
    first | exact h1 (by omega) | exact h0 (by omega)

def zbn (σ : zSt) (l : Int) : Int := ((ztr (fun q => σ.2 6 (120 * l + q)) (σ.2 5 l).toNat : Nat) : Int)
def zbeg (σ : zSt) (T l : Int) : zSt :=
  if 0 ≤ σ.1 0 5 then zsF (zsA (zsA (zsA (zsA (zsB σ 9 (128 * T) (zbn σ l) (fun q => σ.2 6 (120 * l + q))) 9 (128 * T + zbn σ l) (σ.1 0 5)) 10 T (zbn σ l + 1)) 11 T 0) 12 T 0) 0 18 (σ.1 0 18 + 1)
  else zsF (zsA (zsA (zsA (zsB σ 9 (128 * T) (zbn σ l) (fun q => σ.2 6 (120 * l + q))) 10 T (zbn σ l)) 11 T 0) 12 T 0) 0 18 (σ.1 0 18 + 1)
theorem zbeg_F {σ : zSt} {T l : Int} {i j : Nat} (h : ¬ (i = 0 ∧ j = 18)) : (zbeg σ T l).1 i j = σ.1 i j := by
  unfold zbeg; split
  · exact zsF_ne h
  · exact zsF_ne h
theorem zbeg_12 {σ : zSt} {T l : Int} : (zbeg σ T l).2 12 T = 0 := by
  unfold zbeg; split
  · exact zsF_A.trans zsA_eq
  · exact zsF_A.trans zsA_eq
theorem zbeg_A {σ : zSt} {T l : Int} {i : Nat} (h : i ≠ 9 ∧ i ≠ 10 ∧ i ≠ 11 ∧ i ≠ 12) : (zbeg σ T l).2 i = σ.2 i := by
  unfold zbeg; split
  · exact (zsA_arr h.2.2.2).trans ((zsA_arr h.2.2.1).trans ((zsA_arr h.2.1).trans ((zsA_arr h.1).trans (zsB_arr h.1))))
  · exact (zsA_arr h.2.2.2).trans ((zsA_arr h.2.2.1).trans ((zsA_arr h.2.1).trans (zsB_arr h.1)))
theorem M_X7_beginZ {G : zG} {σ : zSt} {Post : Option Value → zSt → Prop} (T l : Int) (hT0 : 0 ≤ T) (hT6 : T < 6) (hl0 : 0 ≤ l) (hl : l < 240) (hln : ∀ q, 0 ≤ σ.2 5 q ∧ σ.2 5 q ≤ 120) (hbg0 : 0 ≤ σ.1 0 18) (hbg : σ.1 0 18 ≤ 2000000000) (h : Post none (zbeg σ T l)) : zV G shM mX7_begin 0 (zini 5 [.ref (zad G 0), .int (zI T), .int (zI l)]) [] σ Post :=
  M_X7_begin T l hT0 hT6 hl0 hl hln hbg0 hbg (fun q => by unfold zbeg at h; rw [if_pos q] at h; exact h) (fun q => by unfold zbeg at h; rw [if_neg (Int.not_le.mpr q)] at h; exact h)
def zhl : Nat → zSt → zSt
  | 0, σ => σ
  | t + 1, σ => if 0 ≤ σ.2 12 t then σ else if σ.2 13 t ≠ 0 ∨ σ.2 4 (σ.2 7 t) ≤ σ.2 8 t + 1 then zhl t (zsF σ 0 10 t) else zbeg (zsA σ 8 t (σ.2 8 t + 1)) t (30 * σ.2 7 t + (σ.2 8 t + 1))
theorem zhl_at {σ : zSt} {t : Nat} {T : Int} (hT : (t : Int) = T) (h : 0 ≤ σ.2 12 T) : zhl (t + 1) σ = σ := by subst hT; exact if_pos h
theorem zhl_pop {σ : zSt} {t : Nat} {T : Int} (hT : (t : Int) = T) (h : ¬ 0 ≤ σ.2 12 T) (h2 : σ.2 13 T ≠ 0 ∨ σ.2 4 (σ.2 7 T) ≤ σ.2 8 T + 1) : zhl (t + 1) σ = zhl t (zsF σ 0 10 T) := by subst hT; exact (if_neg h).trans (if_pos h2)
theorem zhl_beg {σ : zSt} {t : Nat} {T : Int} (hT : (t : Int) = T) (h : ¬ 0 ≤ σ.2 12 T) (h2 : ¬ (σ.2 13 T ≠ 0 ∨ σ.2 4 (σ.2 7 T) ≤ σ.2 8 T + 1)) : zhl (t + 1) σ = zbeg (zsA σ 8 T (σ.2 8 T + 1)) T (30 * σ.2 7 T + (σ.2 8 T + 1)) := by subst hT; exact (if_neg h).trans (if_neg h2)

set_option maxRecDepth 100000 in
theorem L_X7_hasLine {G : zG} {σ : zSt} {Post : Option Value → zSt → Prop} (L0 : Int) (hR : zRg σ) (hL6 : L0 ≤ 6) (hlf : ∀ t, 0 ≤ t → t < L0 → 0 ≤ σ.2 7 t ∧ σ.2 7 t < 8 ∧ -1 ≤ σ.2 8 t ∧ σ.2 8 t < σ.2 4 (σ.2 7 t)) (hlv : ∀ t, -1 ≤ σ.2 12 t ∧ σ.2 12 t ≤ 2 ∧ 0 ≤ σ.2 13 t ∧ σ.2 13 t ≤ 1) (hlc : ∀ q, 0 ≤ σ.2 4 q ∧ σ.2 4 q ≤ 30) (hln : ∀ q, 0 ≤ σ.2 5 q ∧ σ.2 5 q ≤ 120) (hbg0 : 0 ≤ σ.1 0 18) (hbg : σ.1 0 18 ≤ 2000000000) : ∀ (m : Nat) (Lv T : Int) (y1 y2 : Option Value) (hL : Lv = (m : Int)) (hT : Lv = T + 1) (hL0 : Lv ≤ L0) (h1 : 0 < (zhl m (zsF σ 0 10 Lv)).1 0 10 → Post (some (.int (zI 1))) (zhl m (zsF σ 0 10 Lv))) (h0 : (zhl m (zsF σ 0 10 Lv)).1 0 10 ≤ 0 → Post (some (.int (zI 0))) (zhl m (zsF σ 0 10 Lv))), zV G shM mX7_hasLine 0 [some (.ref (zad G 0)), y1, y2] [] (zsF σ 0 10 Lv) Post := by
  intro m
  induction m with
  | zero =>
    intro Lv T y1 y2 hL hT hL0 h1 h0
    refine z_aload_0 dX7_hasLine_0 ?_
    refine z_getI (j := 10) dX7_hasLine_1 zf_X7_90 rfl rfl ?_
    refine z_top (b := Lv) zsF_eq ?_
    refine z_if_le (tgt := 103) dX7_hasLine_4 (by decide) (by omega) (fun c4 => ?_) (fun c4 => by exfalso; omega)
    refine z_aload_0 dX7_hasLine_103 ?_
    refine z_getI (j := 10) dX7_hasLine_104 zf_X7_90 rfl rfl ?_
    refine z_top (b := Lv) zsF_eq ?_
    refine z_if_le (tgt := 114) dX7_hasLine_107 (by decide) (by omega) (fun c107 => ?_) (fun c107 => by exfalso; omega)
    refine z_iconst 0 dX7_hasLine_114 rfl ?_
    refine z_zret dX7_hasLine_115 rfl (Or.inl rfl) ?_
    exact h0 (by show Lv ≤ 0; omega)
  | succ m ih =>
    intro Lv T y1 y2 hL hT hL0 h1 h0
    have hlf1 := hlf T (by omega) (by omega)
    have hlv1 := hlv T
    have hlc1 := hlc (σ.2 7 T)
    refine z_aload_0 dX7_hasLine_0 ?_
    refine z_getI (j := 10) dX7_hasLine_1 zf_X7_90 rfl rfl ?_
    refine z_top (b := Lv) zsF_eq ?_
    refine z_if_le (tgt := 103) dX7_hasLine_4 (by decide) (by omega) (fun c4 => by exfalso; omega) (fun c4 => ?_)
    refine z_aload_0 dX7_hasLine_7 ?_
    refine z_getR (j := 16) dX7_hasLine_8 zf_X7_48 rfl rfl ?_
    refine z_aload_0 dX7_hasLine_11 ?_
    refine z_getI (j := 10) dX7_hasLine_12 zf_X7_90 rfl rfl ?_
    refine z_top (b := Lv) zsF_eq ?_
    refine z_iconst 1 dX7_hasLine_15 rfl ?_
    refine z_isub dX7_hasLine_16 ?_
    refine z_top (b := T) (by omega) ?_
    refine z_iald dX7_hasLine_17 rfl (by decide) (by omega) (by omega) ?_
    refine z_top (b := σ.2 12 T) zsF_A ?_
    have w1 : zR (σ.2 12 T) := hR.2 12 T
    refine z_if_ge (tgt := 103) dX7_hasLine_18 (by decide) (by omega) (fun c18 => ?_) (fun c18 => ?_)
    · refine z_aload_0 dX7_hasLine_103 ?_
      refine z_getI (j := 10) dX7_hasLine_104 zf_X7_90 rfl rfl ?_
      refine z_top (b := Lv) zsF_eq ?_
      refine z_if_le (tgt := 114) dX7_hasLine_107 (by decide) (by omega) (fun c107 => by exfalso; omega) (fun c107 => ?_)
      refine z_iconst 1 dX7_hasLine_110 rfl ?_
      refine z_goto (tgt := 115) dX7_hasLine_111 (by decide) ?_
      refine z_zret dX7_hasLine_115 rfl (Or.inr rfl) ?_
      have hT' : ((m : Nat) : Int) = T := by omega
      have e8 : 0 ≤ (zsF σ 0 10 Lv).2 12 T := (show 0 ≤ σ.2 12 T by omega)
      rw [zhl_at hT' e8] at h1
      exact h1 (zgtE zsF_eq (by omega))
    · refine z_aload_0 dX7_hasLine_21 ?_
      refine z_getI (j := 10) dX7_hasLine_22 zf_X7_90 rfl rfl ?_
      refine z_top (b := Lv) zsF_eq ?_
      refine z_iconst 1 dX7_hasLine_25 rfl ?_
      refine z_isub dX7_hasLine_26 ?_
      refine z_top (b := T) (by omega) ?_
      refine z_istore_1 dX7_hasLine_27 (Nat.le_of_ble_eq_true rfl) rfl ?_
      refine z_aload_0 dX7_hasLine_28 ?_
      refine z_getR (j := 11) dX7_hasLine_29 zf_X7_33 rfl rfl ?_
      refine z_iload_1 dX7_hasLine_32 ?_
      refine z_iald dX7_hasLine_33 rfl (by decide) (by omega) (by omega) ?_
      refine z_top (b := σ.2 7 T) zsF_A ?_
      have w2 : zR (σ.2 7 T) := hR.2 7 T
      refine z_istore_2 dX7_hasLine_34 (Nat.le_of_ble_eq_true rfl) rfl ?_
      refine z_aload_0 dX7_hasLine_35 ?_
      refine z_getR (j := 17) dX7_hasLine_36 zf_X7_51 rfl rfl ?_
      refine z_iload_1 dX7_hasLine_39 ?_
      refine z_zald dX7_hasLine_40 rfl (by decide) (by omega) (by omega) ?_
      refine z_top (b := σ.2 13 T) zsF_A ?_
      have w3 : zR (σ.2 13 T) := hR.2 13 T
      refine z_if_ne (tgt := 61) dX7_hasLine_41 (by decide) (by omega) (fun c41 => ?_) (fun c41 => ?_)
      · refine z_aload_0 dX7_hasLine_61 ?_
        refine z_dup dX7_hasLine_62 rfl ?_
        refine z_getI (j := 10) dX7_hasLine_63 zf_X7_90 rfl rfl ?_
        refine z_top (b := Lv) zsF_eq ?_
        refine z_iconst 1 dX7_hasLine_66 rfl ?_
        refine z_isub dX7_hasLine_67 ?_
        refine z_top (b := T) (by omega) ?_
        refine z_putI (j := 10) dX7_hasLine_68 zp_X7_90 rfl rfl (by omega) ?_
        refine z_goto (tgt := 100) dX7_hasLine_71 (by decide) ?_
        refine z_goto (tgt := 0) dX7_hasLine_100 (by decide) ?_
        refine z_st zg_1 ?_
        have hT' : ((m : Nat) : Int) = T := by omega
        have e8 : ¬ 0 ≤ (zsF σ 0 10 Lv).2 12 T := fun q => by have q1 : 0 ≤ σ.2 12 T := q; omega
        have e7 : (zsF σ 0 10 Lv).2 13 T ≠ 0 ∨ (zsF σ 0 10 Lv).2 4 ((zsF σ 0 10 Lv).2 7 T) ≤ (zsF σ 0 10 Lv).2 8 T + 1 := (show σ.2 13 T ≠ 0 ∨ σ.2 4 (σ.2 7 T) ≤ σ.2 8 T + 1 by omega)
        rw [(zhl_pop hT' e8 e7).trans (congrArg (zhl m) zg_1)] at h1 h0
        exact ih T (T - 1) _ _ (by omega) (by omega) (by omega) h1 h0
      · refine z_aload_0 dX7_hasLine_44 ?_
        refine z_getR (j := 12) dX7_hasLine_45 zf_X7_36 rfl rfl ?_
        refine z_iload_1 dX7_hasLine_48 ?_
        refine z_iald dX7_hasLine_49 rfl (by decide) (by omega) (by omega) ?_
        refine z_top (b := σ.2 8 T) zsF_A ?_
        have w4 : zR (σ.2 8 T) := hR.2 8 T
        refine z_iconst 1 dX7_hasLine_50 rfl ?_
        refine z_iadd dX7_hasLine_51 ?_
        refine z_aload_0 dX7_hasLine_52 ?_
        refine z_getR (j := 7) dX7_hasLine_53 zf_X7_24 rfl rfl ?_
        refine z_iload_2 dX7_hasLine_56 ?_
        refine z_iald dX7_hasLine_57 rfl (by decide) (by omega) (by omega) ?_
        refine z_top (b := σ.2 4 (σ.2 7 T)) zsF_A ?_
        have w5 : zR (σ.2 4 (σ.2 7 T)) := hR.2 4 (σ.2 7 T)
        refine z_icmp_lt (tgt := 74) dX7_hasLine_58 (by decide) (by omega) (by omega) (fun c58 => ?_) (fun c58 => ?_)
        · refine z_aload_0 dX7_hasLine_74 ?_
          refine z_getR (j := 12) dX7_hasLine_75 zf_X7_36 rfl rfl ?_
          refine z_iload_1 dX7_hasLine_78 ?_
          refine z_dup2 dX7_hasLine_79 rfl rfl ?_
          refine z_iald dX7_hasLine_80 rfl (by decide) (by omega) (by omega) ?_
          refine z_top (b := σ.2 8 T) zsF_A ?_
          have w6 : zR (σ.2 8 T) := hR.2 8 T
          refine z_iconst 1 dX7_hasLine_81 rfl ?_
          refine z_iadd dX7_hasLine_82 ?_
          refine z_iast dX7_hasLine_83 rfl (by decide) (by omega) (by omega) (by omega) ?_
          refine z_aload_0 dX7_hasLine_84 ?_
          refine z_iload_1 dX7_hasLine_85 ?_
          refine z_bipush 30 dX7_hasLine_86 (by decide +kernel) ?_
          refine z_iload_2 dX7_hasLine_88 ?_
          refine z_imul dX7_hasLine_89 ?_
          refine z_aload_0 dX7_hasLine_90 ?_
          refine z_getR (j := 12) dX7_hasLine_91 zf_X7_36 rfl rfl ?_
          refine z_iload_1 dX7_hasLine_94 ?_
          refine z_iald dX7_hasLine_95 rfl (by decide) (by omega) (by omega) ?_
          refine z_top (b := ((σ.2 8 T) + 1)) zsA_eq ?_
          refine z_iadd dX7_hasLine_96 ?_
          refine z_callV mX7_begin [.int (zI T), .int (zI ((30 * (σ.2 7 T)) + ((σ.2 8 T) + 1)))] dX7_hasLine_97 zk_X7_begin zl_X7_93 ⟨Nat.le_of_ble_eq_true rfl, Nat.le_of_ble_eq_true rfl⟩ rfl rfl (Nat.le_of_ble_eq_true rfl) (Nat.le_of_ble_eq_true rfl) ?_
          refine M_X7_beginZ T ((30 * (σ.2 7 T)) + ((σ.2 8 T) + 1)) (by omega) (by omega) (by omega) (by omega) (fun q => hln q) (zgeE (b := σ.1 0 18) (zsA_F.trans (zsF_ne (by omega))) (by omega)) (zleE (b := σ.1 0 18) (zsA_F.trans (zsF_ne (by omega))) (by omega)) ?_
          refine z_b0 ?_
          refine z_goto (tgt := 0) dX7_hasLine_100 (by decide) ?_
          refine z_aload_0 dX7_hasLine_0 ?_
          refine z_getI (j := 10) dX7_hasLine_1 zf_X7_90 rfl rfl ?_
          refine z_top (b := Lv) ((zbeg_F (by omega)).trans (zsA_F.trans zsF_eq)) ?_
          refine z_if_le (tgt := 103) dX7_hasLine_4 (by decide) (by omega) (fun c4 => by exfalso; omega) (fun c4 => ?_)
          refine z_aload_0 dX7_hasLine_7 ?_
          refine z_getR (j := 16) dX7_hasLine_8 zf_X7_48 rfl rfl ?_
          refine z_aload_0 dX7_hasLine_11 ?_
          refine z_getI (j := 10) dX7_hasLine_12 zf_X7_90 rfl rfl ?_
          refine z_top (b := Lv) ((zbeg_F (by omega)).trans (zsA_F.trans zsF_eq)) ?_
          refine z_iconst 1 dX7_hasLine_15 rfl ?_
          refine z_isub dX7_hasLine_16 ?_
          refine z_top (b := T) (by omega) ?_
          refine z_iald dX7_hasLine_17 rfl (by decide) (by omega) (by omega) ?_
          refine z_top (b := 0) zbeg_12 ?_
          refine z_if_ge (tgt := 103) dX7_hasLine_18 (by decide) ⟨by decide, by decide⟩ (fun c18 => ?_) (fun c18 => by exfalso; omega)
          refine z_aload_0 dX7_hasLine_103 ?_
          refine z_getI (j := 10) dX7_hasLine_104 zf_X7_90 rfl rfl ?_
          refine z_top (b := Lv) ((zbeg_F (by omega)).trans (zsA_F.trans zsF_eq)) ?_
          refine z_if_le (tgt := 114) dX7_hasLine_107 (by decide) (by omega) (fun c107 => by exfalso; omega) (fun c107 => ?_)
          refine z_iconst 1 dX7_hasLine_110 rfl ?_
          refine z_goto (tgt := 115) dX7_hasLine_111 (by decide) ?_
          refine z_zret dX7_hasLine_115 rfl (Or.inr rfl) ?_
          have hT' : ((m : Nat) : Int) = T := by omega
          have e8 : ¬ 0 ≤ (zsF σ 0 10 Lv).2 12 T := fun q => by have q1 : 0 ≤ σ.2 12 T := q; omega
          have e7 : ¬ ((zsF σ 0 10 Lv).2 13 T ≠ 0 ∨ (zsF σ 0 10 Lv).2 4 ((zsF σ 0 10 Lv).2 7 T) ≤ (zsF σ 0 10 Lv).2 8 T + 1) := (show ¬ (σ.2 13 T ≠ 0 ∨ σ.2 4 (σ.2 7 T) ≤ σ.2 8 T + 1) by omega)
          rw [zhl_beg hT' e8 e7] at h1
          exact h1 (zgtE (b := Lv) ((zbeg_F (by omega)).trans (zsA_F.trans zsF_eq)) (by omega))
        · refine z_aload_0 dX7_hasLine_61 ?_
          refine z_dup dX7_hasLine_62 rfl ?_
          refine z_getI (j := 10) dX7_hasLine_63 zf_X7_90 rfl rfl ?_
          refine z_top (b := Lv) zsF_eq ?_
          refine z_iconst 1 dX7_hasLine_66 rfl ?_
          refine z_isub dX7_hasLine_67 ?_
          refine z_top (b := T) (by omega) ?_
          refine z_putI (j := 10) dX7_hasLine_68 zp_X7_90 rfl rfl (by omega) ?_
          refine z_goto (tgt := 100) dX7_hasLine_71 (by decide) ?_
          refine z_goto (tgt := 0) dX7_hasLine_100 (by decide) ?_
          refine z_st zg_1 ?_
          have hT' : ((m : Nat) : Int) = T := by omega
          have e8 : ¬ 0 ≤ (zsF σ 0 10 Lv).2 12 T := fun q => by have q1 : 0 ≤ σ.2 12 T := q; omega
          have e7 : (zsF σ 0 10 Lv).2 13 T ≠ 0 ∨ (zsF σ 0 10 Lv).2 4 ((zsF σ 0 10 Lv).2 7 T) ≤ (zsF σ 0 10 Lv).2 8 T + 1 := (show σ.2 13 T ≠ 0 ∨ σ.2 4 (σ.2 7 T) ≤ σ.2 8 T + 1 by omega)
          rw [(zhl_pop hT' e8 e7).trans (congrArg (zhl m) zg_1)] at h1 h0
          exact ih T (T - 1) _ _ (by omega) (by omega) (by omega) h1 h0

set_option maxRecDepth 100000 in
theorem M_X7_hasLine {G : zG} {σ : zSt} {Post : Option Value → zSt → Prop} (hl0 : 0 ≤ σ.1 0 10) (hL6 : σ.1 0 10 ≤ 6) (hlf : ∀ t, 0 ≤ t → t < σ.1 0 10 → 0 ≤ σ.2 7 t ∧ σ.2 7 t < 8 ∧ -1 ≤ σ.2 8 t ∧ σ.2 8 t < σ.2 4 (σ.2 7 t)) (hlv : ∀ t, -1 ≤ σ.2 12 t ∧ σ.2 12 t ≤ 2 ∧ 0 ≤ σ.2 13 t ∧ σ.2 13 t ≤ 1) (hlc : ∀ q, 0 ≤ σ.2 4 q ∧ σ.2 4 q ≤ 30) (hln : ∀ q, 0 ≤ σ.2 5 q ∧ σ.2 5 q ≤ 120) (hbg0 : 0 ≤ σ.1 0 18) (hbg : σ.1 0 18 ≤ 2000000000) (h1 : 0 < (zhl (σ.1 0 10).toNat σ).1 0 10 → Post (some (.int (zI 1))) (zhl (σ.1 0 10).toNat σ)) (h0 : (zhl (σ.1 0 10).toNat σ).1 0 10 ≤ 0 → Post (some (.int (zI 0))) (zhl (σ.1 0 10).toNat σ)) : zV G shM mX7_hasLine 0 (zini 3 [.ref (zad G 0)]) [] σ Post := by
  refine z_rg (fun hR => ?_)
  refine z_lv (lv' := [some (.ref (zad G 0)), none, none]) rfl ?_
  have e1 : zsF σ 0 10 (σ.1 0 10) = σ := zsF_id rfl
  refine z_st e1.symm (L_X7_hasLine (σ.1 0 10) hR hL6 hlf hlv hlc hln hbg0 hbg (σ.1 0 10).toNat (σ.1 0 10) (σ.1 0 10 - 1) none none (by omega) (by omega) (by omega) ?_ ?_)
  · rw [e1]; exact h1
  · rw [e1]; exact h0

def zisW (σ : zSt) (wl a : Int) : Prop := σ.2 16 a = wl ∧ ∀ k, 0 ≤ k → k < wl → σ.2 15 (40 * a + k) = σ.2 18 k

set_option maxRecDepth 100000 in
theorem L_X7_nw1 {G : zG} {σ : zSt} {Post : Option Value → zSt → Prop} (a : Int) (ha0 : 0 ≤ a) (ha : a < 150) (hR : zRg σ) (hna0 : 0 ≤ σ.1 0 21) (hna1 : σ.1 0 21 ≤ 150) (hw0 : 0 ≤ σ.1 0 29) (hw1 : σ.1 0 29 ≤ 40) (he : σ.2 16 a = (σ.1 0 29)) (h1 : zisW σ (σ.1 0 29) a → Post (some (.int (zI a))) σ) (h0 : ¬ zisW σ (σ.1 0 29) a → ∀ y2 y3, zV G shM mX7_nameOfWord 2 [some (.ref (zad G 0)), some (.int (zI (a + 1))), y2, y3] [] σ Post) : ∀ (m : Nat) (k : Int) (hk0 : 0 ≤ k) (hm : k + m = (σ.1 0 29)) (hq : ∀ j, 0 ≤ j → j < k → σ.2 15 (40 * a + j) = σ.2 18 j), zV G shM mX7_nameOfWord 31 [some (.ref (zad G 0)), some (.int (zI a)), some (.int (zI 1)), some (.int (zI k))] [] σ Post := by
  intro m
  induction m with
  | zero =>
    intro k hk0 hm hq
    refine z_iload_3 dX7_nameOfWord_31 ?_
    refine z_aload_0 dX7_nameOfWord_32 ?_
    refine z_getI (j := 29) dX7_nameOfWord_33 zf_X7_122 rfl rfl ?_
    have w1 : zR (σ.1 0 29) := hR.1 0 29
    refine z_icmp_ge (tgt := 75) dX7_nameOfWord_36 (by decide) (by omega) (by omega) (fun c36 => ?_) (fun c36 => by exfalso; omega)
    refine z_iload_2 dX7_nameOfWord_75 ?_
    refine z_if_eq (tgt := 81) dX7_nameOfWord_76 (by decide) ⟨by decide, by decide⟩ (fun c76 => by exfalso; omega) (fun c76 => ?_)
    refine z_iload_1 dX7_nameOfWord_79 ?_
    refine z_iret dX7_nameOfWord_80 rfl ?_
    exact h1 ⟨he, fun j q0 q1 => hq j q0 (by omega)⟩
  | succ m ih =>
    intro k hk0 hm hq
    refine z_iload_3 dX7_nameOfWord_31 ?_
    refine z_aload_0 dX7_nameOfWord_32 ?_
    refine z_getI (j := 29) dX7_nameOfWord_33 zf_X7_122 rfl rfl ?_
    have w1 : zR (σ.1 0 29) := hR.1 0 29
    refine z_icmp_ge (tgt := 75) dX7_nameOfWord_36 (by decide) (by omega) (by omega) (fun c36 => by exfalso; omega) (fun c36 => ?_)
    refine z_iload_2 dX7_nameOfWord_39 ?_
    refine z_if_eq (tgt := 75) dX7_nameOfWord_40 (by decide) ⟨by decide, by decide⟩ (fun c40 => by exfalso; omega) (fun c40 => ?_)
    refine z_aload_0 dX7_nameOfWord_43 ?_
    refine z_getR (j := 22) dX7_nameOfWord_44 zf_X7_57 rfl rfl ?_
    refine z_bipush 40 dX7_nameOfWord_47 (by decide +kernel) ?_
    refine z_iload_1 dX7_nameOfWord_49 ?_
    refine z_imul dX7_nameOfWord_50 ?_
    refine z_iload_3 dX7_nameOfWord_51 ?_
    refine z_iadd dX7_nameOfWord_52 ?_
    refine z_iald dX7_nameOfWord_53 rfl (by decide) (by omega) (by omega) ?_
    have w2 : zR (σ.2 15 ((40 * a) + k)) := hR.2 15 ((40 * a) + k)
    refine z_aload_0 dX7_nameOfWord_54 ?_
    refine z_getR (j := 28) dX7_nameOfWord_55 zf_X7_66 rfl rfl ?_
    refine z_iload_3 dX7_nameOfWord_58 ?_
    refine z_iald dX7_nameOfWord_59 rfl (by decide) (by omega) (by omega) ?_
    have w3 : zR (σ.2 18 k) := hR.2 18 k
    refine z_icmp_ne (tgt := 67) dX7_nameOfWord_60 (by decide) (by omega) (by omega) (fun c60 => ?_) (fun c60 => ?_)
    · refine z_iconst 0 dX7_nameOfWord_67 rfl ?_
      refine z_istore_2 dX7_nameOfWord_68 (Nat.le_of_ble_eq_true rfl) rfl ?_
      refine z_iinc_3 dX7_nameOfWord_69 (Nat.le_of_ble_eq_true rfl) rfl ?_
      refine z_goto (tgt := 31) dX7_nameOfWord_72 (by decide) ?_
      refine z_iload_3 dX7_nameOfWord_31 ?_
      refine z_aload_0 dX7_nameOfWord_32 ?_
      refine z_getI (j := 29) dX7_nameOfWord_33 zf_X7_122 rfl rfl ?_
      have w4 : zR (σ.1 0 29) := hR.1 0 29
      refine z_icmp_ge (tgt := 75) dX7_nameOfWord_36 (by decide) (by omega) (by omega) (fun c36 => ?_) (fun c36 => ?_)
      · refine z_iload_2 dX7_nameOfWord_75 ?_
        refine z_if_eq (tgt := 81) dX7_nameOfWord_76 (by decide) ⟨by decide, by decide⟩ (fun c76 => ?_) (fun c76 => by exfalso; omega)
        refine z_iinc_1 dX7_nameOfWord_81 (Nat.le_of_ble_eq_true rfl) rfl ?_
        refine z_goto (tgt := 2) dX7_nameOfWord_84 (by decide) ?_
        exact h0 (fun q => by have := q.2 k hk0 (by omega); omega) _ _
      · refine z_iload_2 dX7_nameOfWord_39 ?_
        refine z_if_eq (tgt := 75) dX7_nameOfWord_40 (by decide) ⟨by decide, by decide⟩ (fun c40 => ?_) (fun c40 => by exfalso; omega)
        refine z_iload_2 dX7_nameOfWord_75 ?_
        refine z_if_eq (tgt := 81) dX7_nameOfWord_76 (by decide) ⟨by decide, by decide⟩ (fun c76 => ?_) (fun c76 => by exfalso; omega)
        refine z_iinc_1 dX7_nameOfWord_81 (Nat.le_of_ble_eq_true rfl) rfl ?_
        refine z_goto (tgt := 2) dX7_nameOfWord_84 (by decide) ?_
        exact h0 (fun q => by have := q.2 k hk0 (by omega); omega) _ _
    · refine z_iconst 1 dX7_nameOfWord_63 rfl ?_
      refine z_goto (tgt := 68) dX7_nameOfWord_64 (by decide) ?_
      refine z_istore_2 dX7_nameOfWord_68 (Nat.le_of_ble_eq_true rfl) rfl ?_
      refine z_iinc_3 dX7_nameOfWord_69 (Nat.le_of_ble_eq_true rfl) rfl ?_
      refine z_goto (tgt := 31) dX7_nameOfWord_72 (by decide) ?_
      exact ih (k + 1) (by omega) (by omega) (fun j q0 q1 => by
        rcases Decidable.em (j = k) with q | q
        · subst q; omega
        · exact hq j q0 (by omega))

set_option maxRecDepth 100000 in
theorem L_X7_nw3 {G : zG} {σ : zSt} {Post : Option Value → zSt → Prop} (hR : zRg σ) (hna0 : 0 ≤ σ.1 0 21) (hna1 : σ.1 0 21 ≤ 150) (hw0 : 0 ≤ σ.1 0 29) (hw1 : σ.1 0 29 ≤ 40) (hn : σ.1 0 21 < 150) (y2 y3 : Option Value) (h2 : Post (some (.int (zI (σ.1 0 21)))) (zsF (zsA (zsB σ 15 (40 * σ.1 0 21) (σ.1 0 29) (σ.2 18)) 16 (σ.1 0 21) (σ.1 0 29)) 0 21 (σ.1 0 21 + 1))) : ∀ (m : Nat) (k : Int) (hk0 : 0 ≤ k) (hm : k + m = σ.1 0 29), zV G shM mX7_nameOfWord 101 [some (.ref (zad G 0)), some (.int (zI k)), y2, y3] [] (zsB σ 15 (40 * σ.1 0 21) k (σ.2 18)) Post := by
  intro m
  induction m with
  | zero =>
    intro k hk0 hm
    refine z_iload_1 dX7_nameOfWord_101 ?_
    refine z_aload_0 dX7_nameOfWord_102 ?_
    refine z_getI (j := 29) dX7_nameOfWord_103 zf_X7_122 rfl rfl ?_
    refine z_top (b := σ.1 0 29) zsB_F ?_
    have w1 : zR (σ.1 0 29) := hR.1 0 29
    refine z_icmp_ge (tgt := 135) dX7_nameOfWord_106 (by decide) (by omega) (by omega) (fun c106 => ?_) (fun c106 => by exfalso; omega)
    refine z_aload_0 dX7_nameOfWord_135 ?_
    refine z_getR (j := 23) dX7_nameOfWord_136 zf_X7_60 rfl rfl ?_
    refine z_aload_0 dX7_nameOfWord_139 ?_
    refine z_getI (j := 21) dX7_nameOfWord_140 zf_X7_69 rfl rfl ?_
    refine z_top (b := σ.1 0 21) zsB_F ?_
    have w2 : zR (σ.1 0 21) := hR.1 0 21
    refine z_aload_0 dX7_nameOfWord_143 ?_
    refine z_getI (j := 29) dX7_nameOfWord_144 zf_X7_122 rfl rfl ?_
    refine z_top (b := σ.1 0 29) zsB_F ?_
    have w3 : zR (σ.1 0 29) := hR.1 0 29
    refine z_iast dX7_nameOfWord_147 rfl (by decide) (by omega) (by omega) (by omega) ?_
    refine z_aload_0 dX7_nameOfWord_148 ?_
    refine z_dup dX7_nameOfWord_149 rfl ?_
    refine z_getI (j := 21) dX7_nameOfWord_150 zf_X7_69 rfl rfl ?_
    refine z_top (b := σ.1 0 21) (zsA_F.trans zsB_F) ?_
    have w4 : zR (σ.1 0 21) := hR.1 0 21
    refine z_iconst 1 dX7_nameOfWord_153 rfl ?_
    refine z_iadd dX7_nameOfWord_154 ?_
    refine z_putI (j := 21) dX7_nameOfWord_155 zp_X7_69 rfl rfl (by omega) ?_
    refine z_aload_0 dX7_nameOfWord_158 ?_
    refine z_getI (j := 21) dX7_nameOfWord_159 zf_X7_69 rfl rfl ?_
    refine z_top (b := ((σ.1 0 21) + 1)) zsF_eq ?_
    refine z_iconst 1 dX7_nameOfWord_162 rfl ?_
    refine z_isub dX7_nameOfWord_163 ?_
    refine z_iret dX7_nameOfWord_164 rfl ?_
    have e : k = σ.1 0 29 := by omega
    subst e
    exact zPe h2 (by omega)
  | succ m ih =>
    intro k hk0 hm
    refine z_iload_1 dX7_nameOfWord_101 ?_
    refine z_aload_0 dX7_nameOfWord_102 ?_
    refine z_getI (j := 29) dX7_nameOfWord_103 zf_X7_122 rfl rfl ?_
    refine z_top (b := σ.1 0 29) zsB_F ?_
    have w1 : zR (σ.1 0 29) := hR.1 0 29
    refine z_icmp_ge (tgt := 135) dX7_nameOfWord_106 (by decide) (by omega) (by omega) (fun c106 => by exfalso; omega) (fun c106 => ?_)
    refine z_aload_0 dX7_nameOfWord_109 ?_
    refine z_getR (j := 22) dX7_nameOfWord_110 zf_X7_57 rfl rfl ?_
    refine z_bipush 40 dX7_nameOfWord_113 (by decide +kernel) ?_
    refine z_aload_0 dX7_nameOfWord_115 ?_
    refine z_getI (j := 21) dX7_nameOfWord_116 zf_X7_69 rfl rfl ?_
    refine z_top (b := σ.1 0 21) zsB_F ?_
    have w2 : zR (σ.1 0 21) := hR.1 0 21
    refine z_imul dX7_nameOfWord_119 ?_
    refine z_iload_1 dX7_nameOfWord_120 ?_
    refine z_iadd dX7_nameOfWord_121 ?_
    refine z_aload_0 dX7_nameOfWord_122 ?_
    refine z_getR (j := 28) dX7_nameOfWord_123 zf_X7_66 rfl rfl ?_
    refine z_iload_1 dX7_nameOfWord_126 ?_
    refine z_iald dX7_nameOfWord_127 rfl (by decide) (by omega) (by omega) ?_
    refine z_top (b := σ.2 18 k) (zsB_ne1 (by omega)) ?_
    have w3 : zR (σ.2 18 k) := hR.2 18 k
    refine z_iast dX7_nameOfWord_128 rfl (by decide) (by omega) (by omega) (by omega) ?_
    refine z_iinc_1 dX7_nameOfWord_129 (Nat.le_of_ble_eq_true rfl) rfl ?_
    refine z_goto (tgt := 101) dX7_nameOfWord_132 (by decide) ?_
    exact z_st (zsB_S hk0 rfl rfl) (ih (k + 1) (by omega) (by omega))

set_option maxRecDepth 100000 in
theorem L_X7_nw2 {G : zG} {σ : zSt} {Post : Option Value → zSt → Prop} (hR : zRg σ) (hna0 : 0 ≤ σ.1 0 21) (hna1 : σ.1 0 21 ≤ 150) (hw0 : 0 ≤ σ.1 0 29) (hw1 : σ.1 0 29 ≤ 40) (hnl : ∀ q, 0 ≤ σ.2 16 q ∧ σ.2 16 q ≤ 40) (h1 : ∀ j, 0 ≤ j → j < σ.1 0 21 → zisW σ (σ.1 0 29) j → (∀ i, 0 ≤ i → i < j → ¬ zisW σ (σ.1 0 29) i) → Post (some (.int (zI j))) σ) (h2 : (∀ j, 0 ≤ j → j < σ.1 0 21 → ¬ zisW σ (σ.1 0 29) j) → σ.1 0 21 < 150 → Post (some (.int (zI (σ.1 0 21)))) (zsF (zsA (zsB σ 15 (40 * σ.1 0 21) (σ.1 0 29) (σ.2 18)) 16 (σ.1 0 21) (σ.1 0 29)) 0 21 (σ.1 0 21 + 1))) (h0 : (∀ j, 0 ≤ j → j < σ.1 0 21 → ¬ zisW σ (σ.1 0 29) j) → σ.1 0 21 = 150 → Post (some (.int (zI (-1)))) σ) : ∀ (m : Nat) (i : Int) (y2 y3 : Option Value) (hi0 : 0 ≤ i) (hm : i + m = σ.1 0 21) (hq : ∀ j, 0 ≤ j → j < i → ¬ zisW σ (σ.1 0 29) j), zV G shM mX7_nameOfWord 2 [some (.ref (zad G 0)), some (.int (zI i)), y2, y3] [] σ Post := by
  intro m
  induction m with
  | zero =>
    intro i y2 y3 hi0 hm hq
    refine z_iload_1 dX7_nameOfWord_2 ?_
    refine z_aload_0 dX7_nameOfWord_3 ?_
    refine z_getI (j := 21) dX7_nameOfWord_4 zf_X7_69 rfl rfl ?_
    have w1 : zR (σ.1 0 21) := hR.1 0 21
    refine z_icmp_ge (tgt := 87) dX7_nameOfWord_7 (by decide) (by omega) (by omega) (fun c7 => ?_) (fun c7 => by exfalso; omega)
    refine z_aload_0 dX7_nameOfWord_87 ?_
    refine z_getI (j := 21) dX7_nameOfWord_88 zf_X7_69 rfl rfl ?_
    have w2 : zR (σ.1 0 21) := hR.1 0 21
    refine z_sipush 150 dX7_nameOfWord_91 (by decide +kernel) ?_
    refine z_icmp_ne (tgt := 99) dX7_nameOfWord_94 (by decide) (by omega) ⟨by decide, by decide⟩ (fun c94 => ?_) (fun c94 => ?_)
    · refine z_iconst 0 dX7_nameOfWord_99 rfl ?_
      refine z_istore_1 dX7_nameOfWord_100 (Nat.le_of_ble_eq_true rfl) rfl ?_
      exact z_st zsB_0.symm (L_X7_nw3 hR hna0 hna1 hw0 hw1 (by omega) y2 y3 (h2 (fun j q0 q1 => hq j q0 (by omega)) (by omega)) (σ.1 0 29).toNat 0 (by omega) (by omega))
    · refine z_iconst (-1) dX7_nameOfWord_97 rfl ?_
      refine z_iret dX7_nameOfWord_98 rfl ?_
      exact h0 (fun j q0 q1 => hq j q0 (by omega)) (by omega)
  | succ m ih =>
    intro i y2 y3 hi0 hm hq
    have hnl1 := hnl i
    refine z_iload_1 dX7_nameOfWord_2 ?_
    refine z_aload_0 dX7_nameOfWord_3 ?_
    refine z_getI (j := 21) dX7_nameOfWord_4 zf_X7_69 rfl rfl ?_
    have w1 : zR (σ.1 0 21) := hR.1 0 21
    refine z_icmp_ge (tgt := 87) dX7_nameOfWord_7 (by decide) (by omega) (by omega) (fun c7 => by exfalso; omega) (fun c7 => ?_)
    refine z_aload_0 dX7_nameOfWord_10 ?_
    refine z_getR (j := 23) dX7_nameOfWord_11 zf_X7_60 rfl rfl ?_
    refine z_iload_1 dX7_nameOfWord_14 ?_
    refine z_iald dX7_nameOfWord_15 rfl (by decide) (by omega) (by omega) ?_
    have w2 : zR (σ.2 16 i) := hR.2 16 i
    refine z_aload_0 dX7_nameOfWord_16 ?_
    refine z_getI (j := 29) dX7_nameOfWord_17 zf_X7_122 rfl rfl ?_
    have w3 : zR (σ.1 0 29) := hR.1 0 29
    refine z_icmp_ne (tgt := 27) dX7_nameOfWord_20 (by decide) (by omega) (by omega) (fun c20 => ?_) (fun c20 => ?_)
    · refine z_iconst 0 dX7_nameOfWord_27 rfl ?_
      refine z_istore_2 dX7_nameOfWord_28 (Nat.le_of_ble_eq_true rfl) rfl ?_
      refine z_iconst 0 dX7_nameOfWord_29 rfl ?_
      refine z_istore_3 dX7_nameOfWord_30 (Nat.le_of_ble_eq_true rfl) rfl ?_
      refine z_iload_3 dX7_nameOfWord_31 ?_
      refine z_aload_0 dX7_nameOfWord_32 ?_
      refine z_getI (j := 29) dX7_nameOfWord_33 zf_X7_122 rfl rfl ?_
      have w4 : zR (σ.1 0 29) := hR.1 0 29
      refine z_icmp_ge (tgt := 75) dX7_nameOfWord_36 (by decide) ⟨by decide, by decide⟩ (by omega) (fun c36 => ?_) (fun c36 => ?_)
      · refine z_iload_2 dX7_nameOfWord_75 ?_
        refine z_if_eq (tgt := 81) dX7_nameOfWord_76 (by decide) ⟨by decide, by decide⟩ (fun c76 => ?_) (fun c76 => by exfalso; omega)
        refine z_iinc_1 dX7_nameOfWord_81 (Nat.le_of_ble_eq_true rfl) rfl ?_
        refine z_goto (tgt := 2) dX7_nameOfWord_84 (by decide) ?_
        exact ih (i + 1) _ _ (by omega) (by omega) (fun j q0 q1 => by
        rcases Decidable.em (j = i) with q | q
        · subst q; intro q2; exact c20 q2.1
        · exact hq j q0 (by omega))
      · refine z_iload_2 dX7_nameOfWord_39 ?_
        refine z_if_eq (tgt := 75) dX7_nameOfWord_40 (by decide) ⟨by decide, by decide⟩ (fun c40 => ?_) (fun c40 => by exfalso; omega)
        refine z_iload_2 dX7_nameOfWord_75 ?_
        refine z_if_eq (tgt := 81) dX7_nameOfWord_76 (by decide) ⟨by decide, by decide⟩ (fun c76 => ?_) (fun c76 => by exfalso; omega)
        refine z_iinc_1 dX7_nameOfWord_81 (Nat.le_of_ble_eq_true rfl) rfl ?_
        refine z_goto (tgt := 2) dX7_nameOfWord_84 (by decide) ?_
        exact ih (i + 1) _ _ (by omega) (by omega) (fun j q0 q1 => by
        rcases Decidable.em (j = i) with q | q
        · subst q; intro q2; exact c20 q2.1
        · exact hq j q0 (by omega))
    · refine z_iconst 1 dX7_nameOfWord_23 rfl ?_
      refine z_goto (tgt := 28) dX7_nameOfWord_24 (by decide) ?_
      refine z_istore_2 dX7_nameOfWord_28 (Nat.le_of_ble_eq_true rfl) rfl ?_
      refine z_iconst 0 dX7_nameOfWord_29 rfl ?_
      refine z_istore_3 dX7_nameOfWord_30 (Nat.le_of_ble_eq_true rfl) rfl ?_
      refine L_X7_nw1 i hi0 (by omega) hR hna0 hna1 hw0 hw1 c20 (fun q => h1 i hi0 (by omega) q hq) (fun q y2 y3 => ih (i + 1) y2 y3 (by omega) (by omega) (fun j q0 q1 => ?_)) (σ.1 0 29).toNat 0 (by omega) (by omega) (fun j q0 q1 => by omega)
      rcases Decidable.em (j = i) with q3 | q3
      · subst q3; exact q
      · exact hq j q0 (by omega)

set_option maxRecDepth 100000 in
theorem M_X7_nameOfWord {G : zG} {σ : zSt} {Post : Option Value → zSt → Prop} (hna0 : 0 ≤ σ.1 0 21) (hna1 : σ.1 0 21 ≤ 150) (hw0 : 0 ≤ σ.1 0 29) (hw1 : σ.1 0 29 ≤ 40) (hnl : ∀ q, 0 ≤ σ.2 16 q ∧ σ.2 16 q ≤ 40) (h1 : ∀ j, 0 ≤ j → j < σ.1 0 21 → zisW σ (σ.1 0 29) j → (∀ i, 0 ≤ i → i < j → ¬ zisW σ (σ.1 0 29) i) → Post (some (.int (zI j))) σ) (h2 : (∀ j, 0 ≤ j → j < σ.1 0 21 → ¬ zisW σ (σ.1 0 29) j) → σ.1 0 21 < 150 → Post (some (.int (zI (σ.1 0 21)))) (zsF (zsA (zsB σ 15 (40 * σ.1 0 21) (σ.1 0 29) (σ.2 18)) 16 (σ.1 0 21) (σ.1 0 29)) 0 21 (σ.1 0 21 + 1))) (h0 : (∀ j, 0 ≤ j → j < σ.1 0 21 → ¬ zisW σ (σ.1 0 29) j) → σ.1 0 21 = 150 → Post (some (.int (zI (-1)))) σ) : zV G shM mX7_nameOfWord 0 (zini 4 [.ref (zad G 0)]) [] σ Post := by
  refine z_rg (fun hR => ?_)
  refine z_lv (lv' := [some (.ref (zad G 0)), none, none, none]) rfl ?_
  refine z_iconst 0 dX7_nameOfWord_0 rfl ?_
  refine z_istore_1 dX7_nameOfWord_1 (Nat.le_of_ble_eq_true rfl) rfl ?_
  exact L_X7_nw2 hR hna0 hna1 hw0 hw1 hnl h1 h2 h0 (σ.1 0 21).toNat 0 none none (by omega) (by omega) (fun j q0 q1 => by omega)
end
section
def zlets (cats row : Int → Int) (len : Int) : Nat → Int → List Int × Int
  | 0, p => ([], p)
  | m + 1, p => if 0 ≤ zst row len p then (if cats (zsee cats row len len.toNat (zst row len p) (p + 1)).1 = 11 then ((zsee cats row len len.toNat (zst row len p) (p + 1)).1 :: (zlets cats row len m (zsee cats row len len.toNat (zst row len p) (p + 1)).2).1, (zlets cats row len m (zsee cats row len len.toNat (zst row len p) (p + 1)).2).2) else ([], p)) else ([], p)
theorem zlets_no {cats row : Int → Int} {len p : Int} {m : Nat} (h : zst row len p < 0) : zlets cats row len m p = ([], p) := by
  cases m with
  | zero => rfl
  | succ m => exact if_neg (by omega)
theorem zlets_ot {cats row : Int → Int} {len p : Int} {m : Nat} (h0 : 0 ≤ zst row len p) (h : cats (zsee cats row len len.toNat (zst row len p) (p + 1)).1 ≠ 11) : zlets cats row len m p = ([], p) := by
  cases m with
  | zero => rfl
  | succ m => exact (if_pos h0).trans (if_neg h)
theorem zlets_le {cats row : Int → Int} {len p : Int} {m : Nat} (h0 : 0 ≤ zst row len p) (h : cats (zsee cats row len len.toNat (zst row len p) (p + 1)).1 = 11) : zlets cats row len (m + 1) p = ((zsee cats row len len.toNat (zst row len p) (p + 1)).1 :: (zlets cats row len m (zsee cats row len len.toNat (zst row len p) (p + 1)).2).1, (zlets cats row len m (zsee cats row len len.toNat (zst row len p) (p + 1)).2).2) := (if_pos h0).trans (if_pos h)
theorem zlets_len {cats row : Int → Int} {len : Int} : ∀ (m : Nat) (p : Int), (zlets cats row len m p).1.length ≤ m
  | 0, _ => Nat.le_refl 0
  | m + 1, p => by
    rw [zlets]
    split
    · split
      · exact Nat.succ_le_succ (zlets_len m _)
      · exact Nat.zero_le _
    · exact Nat.zero_le _
def zwr (c : Nat) : zSt → Int → List Int → zSt
  | σ, _, [] => σ
  | σ, k, s :: L => zwr c (if k < 40 then zsA σ c k s else σ) (k + 1) L
theorem eqM_wr {c : Nat} : ∀ (L : List Int) (a b : zSt) (k : Int), eqM a b → eqM (zwr c a k L) (zwr c b k L)
  | [], _, _, _, h => h
  | s :: L, a, b, k, h => by
    rw [zwr, zwr]
    refine eqM_wr L _ _ _ ?_
    split
    · exact h.A
    · exact h
theorem zwr_F {c : Nat} : ∀ (L : List Int) (a : zSt) (k : Int), (zwr c a k L).1 = a.1
  | [], _, _ => rfl
  | s :: L, a, k => by
    rw [zwr, zwr_F L]
    split <;> rfl
theorem zwr_A {c i : Nat} (h : i ≠ c) : ∀ (L : List Int) (a : zSt) (k : Int), (zwr c a k L).2 i = a.2 i
  | [], _, _ => rfl
  | s :: L, a, k => by
    rw [zwr, zwr_A h L]
    split
    · exact zsA_arr h
    · rfl

theorem zmr_cg {r r' : Int → Int} {t : Int} (e : r = r') : zmr r t = zmr r' t := by rw [e]
theorem N_X7_see {G : zG} {σ : zSt} {Post : Option Value → zSt → Prop} (T : Int) (hT0 : 0 ≤ T) (hT6 : T < 6) (hT : σ.1 0 10 = T + 1) (cats row : Int → Int) (len z : Int) (hc : σ.2 1 = cats) (hrow : zmr (σ.2 9) T = row) (hln : σ.2 10 T = len) (hz0 : 0 ≤ z) (hz : z < len) (hl : len ≤ 121) (hrow0 : ∀ q, 0 ≤ row q ∧ row q ≤ 255) (h : Post none (zsF (zsF σ 0 26 (zsee cats row len len.toNat (zst row len z) (z + 1)).1) 0 27 ((zsee cats row len len.toNat (zst row len z) (z + 1)).2 - z))) : zV G shM mX7_see 0 (zini 4 [.ref (zad G 0), .int (zI z)]) [] σ Post := by
  subst hc; subst hrow; subst hln
  refine M_X7_see T hT0 hT6 hT z hz0 hz hl (fun q => ?_) h
  have := hrow0 (q - 128 * T)
  rw [zmr, show 128 * T + (q - 128 * T) = q by omega] at this
  exact this
theorem N_X7_standing {G : zG} {σ : zSt} {Post : Option Value → zSt → Prop} (T : Int) (hT0 : 0 ≤ T) (hT6 : T < 6) (hT : σ.1 0 10 = T + 1) (row : Int → Int) (len z : Int) (hrow : zmr (σ.2 9) T = row) (hln : σ.2 10 T = len) (hz0 : 0 ≤ z) (hz : zR z) (hl : len ≤ 121) (h : Post (some (.int (zI (zst row len z)))) σ) : zV G shM mX7_standing 0 (zini 3 [.ref (zad G 0), .int (zI z)]) [] σ Post := by
  subst hrow; subst hln
  exact M_X7_standing T hT0 hT6 hT z hz0 hz hl h
theorem zst_R2 {row : Int → Int} (h : ∀ q, 0 ≤ row q ∧ row q ≤ 255) (len p : Int) : -1 ≤ zst row len p ∧ zst row len p ≤ 255 := by unfold zst; split; have := h p; omega; omega

theorem N_X7_addToWord {G : zG} {σ : zSt} {Post : Option Value → zSt → Prop} (n s : Int) (hs : σ.1 0 26 = s) (hn0 : 0 ≤ n) (hn : n ≤ 1000) (h1 : n < 40 → Post none (zsF (zsA σ 18 n s) 0 29 (n + 1))) (h0 : 40 ≤ n → Post none σ) : zV G shM mX7_addToWord 0 (zini 2 [.ref (zad G 0), .int (zI n)]) [] σ Post := M_X7_addToWord n hn0 hn (fun q => by rw [hs]; exact h1 q) h0
theorem zst_neg {row : Int → Int} {len p : Int} (h : ∀ q, 0 ≤ row q ∧ row q ≤ 255) (h0 : 0 ≤ p) (hn : zst row len p < 0) : len ≤ p := by
  rcases Decidable.em (p < len) with q | q
  · rw [zst_in h0 q] at hn; have := h p; omega
  · omega
theorem zst_pos {row : Int → Int} {len p : Int} (hn : 0 ≤ zst row len p) : p < len := (zst_lt hn).2

set_option maxRecDepth 100000 in
theorem L_X7_letters {G : zG} {σ : zSt} {Post : Option Value → zSt → Prop} (T : Int) (hT0 : 0 ≤ T) (hT6 : T < 6) (cats row : Int → Int) (len fr : Int) (hl : len ≤ 121) (hrow0 : ∀ q, 0 ≤ row q ∧ row q ≤ 255) : ∀ (m : Nat) (σ : zSt) (hR : zRg σ) (n p : Int) (hT : σ.1 0 10 = T + 1) (hc : σ.2 1 = cats) (hrow : zmr (σ.2 9) T = row) (hln : σ.2 10 T = len) (hn0 : 0 ≤ n) (hnp : n ≤ p) (hs0 : 0 ≤ σ.1 0 26) (hs1 : σ.1 0 26 ≤ 255) (hw : 1 ≤ σ.1 0 27) (hpw : p + σ.1 0 27 ≤ len) (hm : len - (p + σ.1 0 27) ≤ m) (hwl : σ.1 0 29 = zdl n) (h : ∀ σ2, eqM σ2 (zwr 18 σ n (σ.1 0 26 :: (zlets cats row len m (p + σ.1 0 27)).1)) → σ2.1 0 29 = zdl (n + 1 + ((zlets cats row len m (p + σ.1 0 27)).1.length : Int)) → zV G shM mX7_readWord 163 [some (.ref (zad G 0)), some (.int (zI fr)), some (.int (zI T)), some (.int (zI (zlets cats row len m (p + σ.1 0 27)).2)), some (.int (zI (n + 1 + ((zlets cats row len m (p + σ.1 0 27)).1.length : Int)))), some (.int (zI 0))] [] σ2 Post), zV G shM mX7_readWord 93 [some (.ref (zad G 0)), some (.int (zI fr)), some (.int (zI T)), some (.int (zI p)), some (.int (zI n)), some (.int (zI 1))] [] σ Post := by
  intro m
  induction m with
  | zero =>
    intro σ hR n p hT hc hrow hln hn0 hnp hs0 hs1 hw hpw hm hwl h
    have hst : zst row len (p + σ.1 0 27) < 0 := by rw [zst_out (by omega)]; decide
    refine z_iload_5 dX7_readWord_93 ?_
    refine z_if_eq (tgt := 163) dX7_readWord_95 (by decide) ⟨by decide, by decide⟩ (fun c95 => by exfalso; omega) (fun c95 => ?_)
    refine z_aload_0 dX7_readWord_98 ?_
    refine z_iload_4 dX7_readWord_99 ?_
    refine z_callV mX7_addToWord [.int (zI n)] dX7_readWord_101 zk_X7_addToWord zl_X7_129 ⟨Nat.le_of_ble_eq_true rfl, Nat.le_of_ble_eq_true rfl⟩ rfl rfl (Nat.le_of_ble_eq_true rfl) (Nat.le_of_ble_eq_true rfl) ?_
    refine M_X7_addToWord n (by omega) (by omega) (fun i1 => ?_) (fun i1 => ?_)
    · refine z_b0 ?_
      refine z_iinc_4 dX7_readWord_104 (Nat.le_of_ble_eq_true rfl) rfl ?_
      refine z_iload_3 dX7_readWord_107 ?_
      refine z_aload_0 dX7_readWord_108 ?_
      refine z_getI (j := 27) dX7_readWord_109 zf_X7_107 rfl rfl ?_
      refine z_top (b := σ.1 0 27) ((zsF_ne (by omega)).trans zsA_F) ?_
      have w1 : zR (σ.1 0 27) := hR.1 0 27
      refine z_iadd dX7_readWord_112 ?_
      refine z_istore_3 dX7_readWord_113 (Nat.le_of_ble_eq_true rfl) rfl ?_
      refine z_aload_0 dX7_readWord_114 ?_
      refine z_iload_3 dX7_readWord_115 ?_
      refine z_callV mX7_standing [.int (zI (p + (σ.1 0 27)))] dX7_readWord_116 zk_X7_standing zl_X7_100 ⟨Nat.le_of_ble_eq_true rfl, Nat.le_of_ble_eq_true rfl⟩ rfl rfl (Nat.le_of_ble_eq_true rfl) (Nat.le_of_ble_eq_true rfl) ?_
      refine N_X7_standing T hT0 hT6 (zeqE (b := σ.1 0 10) ((zsF_ne (by omega)).trans zsA_F) (by omega)) row len (p + (σ.1 0 27)) ((zmr_cg (zsF_W.trans (zsA_arr (by omega)))).trans hrow) ((zsF_A.trans (zsA_ne1 (by omega))).trans hln) (by omega) (by omega) (by omega) ?_
      refine z_b1 ?_
      have w2 := zst_R2 hrow0 len (p + (σ.1 0 27))
      refine z_if_lt (tgt := 126) dX7_readWord_119 (by decide) (by omega) (fun c119 => ?_) (fun c119 => by exfalso; omega)
      refine z_iconst 0 dX7_readWord_126 rfl ?_
      refine z_istore_5 dX7_readWord_127 (Nat.le_of_ble_eq_true rfl) rfl ?_
      refine z_iload_5 dX7_readWord_129 ?_
      refine z_if_eq (tgt := 93) dX7_readWord_131 (by decide) ⟨by decide, by decide⟩ (fun c131 => ?_) (fun c131 => by exfalso; omega)
      refine z_iload_5 dX7_readWord_93 ?_
      refine z_if_eq (tgt := 163) dX7_readWord_95 (by decide) ⟨by decide, by decide⟩ (fun c95 => ?_) (fun c95 => by exfalso; omega)
      have hle : zlets cats row len 0 (p + σ.1 0 27) = ([], p + σ.1 0 27) := zlets_no (by omega)
      rw [hle] at h
      have q3 := h (zsF (zsA σ 18 n (σ.1 0 26)) 0 29 (n + 1)) (by rw [zwr, zwr]; rw [if_pos i1]; exact (eqM.jF (by unfold zJ; omega) eqM.rfl')) (zsF_eq.trans (by unfold zdl; rw [if_neg (by simp only [List.length_nil]; omega)]; simp only [List.length_nil]; omega))
      rw [show n + 1 + (([] : List Int).length : Int) = n + 1 by simp] at q3
      exact q3
    · refine z_b0 ?_
      refine z_iinc_4 dX7_readWord_104 (Nat.le_of_ble_eq_true rfl) rfl ?_
      refine z_iload_3 dX7_readWord_107 ?_
      refine z_aload_0 dX7_readWord_108 ?_
      refine z_getI (j := 27) dX7_readWord_109 zf_X7_107 rfl rfl ?_
      have w3 : zR (σ.1 0 27) := hR.1 0 27
      refine z_iadd dX7_readWord_112 ?_
      refine z_istore_3 dX7_readWord_113 (Nat.le_of_ble_eq_true rfl) rfl ?_
      refine z_aload_0 dX7_readWord_114 ?_
      refine z_iload_3 dX7_readWord_115 ?_
      refine z_callV mX7_standing [.int (zI (p + (σ.1 0 27)))] dX7_readWord_116 zk_X7_standing zl_X7_100 ⟨Nat.le_of_ble_eq_true rfl, Nat.le_of_ble_eq_true rfl⟩ rfl rfl (Nat.le_of_ble_eq_true rfl) (Nat.le_of_ble_eq_true rfl) ?_
      refine N_X7_standing T hT0 hT6 (by omega) row len (p + (σ.1 0 27)) hrow hln (by omega) (by omega) (by omega) ?_
      refine z_b1 ?_
      have w4 := zst_R2 hrow0 len (p + (σ.1 0 27))
      refine z_if_lt (tgt := 126) dX7_readWord_119 (by decide) (by omega) (fun c119 => ?_) (fun c119 => by exfalso; omega)
      refine z_iconst 0 dX7_readWord_126 rfl ?_
      refine z_istore_5 dX7_readWord_127 (Nat.le_of_ble_eq_true rfl) rfl ?_
      refine z_iload_5 dX7_readWord_129 ?_
      refine z_if_eq (tgt := 93) dX7_readWord_131 (by decide) ⟨by decide, by decide⟩ (fun c131 => ?_) (fun c131 => by exfalso; omega)
      refine z_iload_5 dX7_readWord_93 ?_
      refine z_if_eq (tgt := 163) dX7_readWord_95 (by decide) ⟨by decide, by decide⟩ (fun c95 => ?_) (fun c95 => by exfalso; omega)
      have hle : zlets cats row len 0 (p + σ.1 0 27) = ([], p + σ.1 0 27) := zlets_no (by omega)
      rw [hle] at h
      have q3 := h σ (by rw [zwr, zwr]; rw [if_neg (by omega)]; exact eqM.rfl') (hwl.trans (by unfold zdl; simp only [List.length_nil]; split <;> split <;> omega))
      rw [show n + 1 + (([] : List Int).length : Int) = n + 1 by simp] at q3
      exact q3
  | succ m ih =>
    intro σ hR n p hT hc hrow hln hn0 hnp hs0 hs1 hw hpw hm hwl h
    have hst := zst_neg (row := row) (len := len) (p := p + σ.1 0 27) hrow0 (by omega)
    have hst2 := zst_pos (row := row) (len := len) (p := p + σ.1 0 27)
    refine z_iload_5 dX7_readWord_93 ?_
    refine z_if_eq (tgt := 163) dX7_readWord_95 (by decide) ⟨by decide, by decide⟩ (fun c95 => by exfalso; omega) (fun c95 => ?_)
    refine z_aload_0 dX7_readWord_98 ?_
    refine z_iload_4 dX7_readWord_99 ?_
    refine z_callV mX7_addToWord [.int (zI n)] dX7_readWord_101 zk_X7_addToWord zl_X7_129 ⟨Nat.le_of_ble_eq_true rfl, Nat.le_of_ble_eq_true rfl⟩ rfl rfl (Nat.le_of_ble_eq_true rfl) (Nat.le_of_ble_eq_true rfl) ?_
    refine M_X7_addToWord n (by omega) (by omega) (fun i1 => ?_) (fun i1 => ?_)
    · refine z_b0 ?_
      refine z_iinc_4 dX7_readWord_104 (Nat.le_of_ble_eq_true rfl) rfl ?_
      refine z_iload_3 dX7_readWord_107 ?_
      refine z_aload_0 dX7_readWord_108 ?_
      refine z_getI (j := 27) dX7_readWord_109 zf_X7_107 rfl rfl ?_
      refine z_top (b := σ.1 0 27) ((zsF_ne (by omega)).trans zsA_F) ?_
      have w1 : zR (σ.1 0 27) := hR.1 0 27
      refine z_iadd dX7_readWord_112 ?_
      refine z_istore_3 dX7_readWord_113 (Nat.le_of_ble_eq_true rfl) rfl ?_
      refine z_aload_0 dX7_readWord_114 ?_
      refine z_iload_3 dX7_readWord_115 ?_
      refine z_callV mX7_standing [.int (zI (p + (σ.1 0 27)))] dX7_readWord_116 zk_X7_standing zl_X7_100 ⟨Nat.le_of_ble_eq_true rfl, Nat.le_of_ble_eq_true rfl⟩ rfl rfl (Nat.le_of_ble_eq_true rfl) (Nat.le_of_ble_eq_true rfl) ?_
      refine N_X7_standing T hT0 hT6 (zeqE (b := σ.1 0 10) ((zsF_ne (by omega)).trans zsA_F) (by omega)) row len (p + (σ.1 0 27)) ((zmr_cg (zsF_W.trans (zsA_arr (by omega)))).trans hrow) ((zsF_A.trans (zsA_ne1 (by omega))).trans hln) (by omega) (by omega) (by omega) ?_
      refine z_b1 ?_
      have w2 := zst_R2 hrow0 len (p + (σ.1 0 27))
      refine z_if_lt (tgt := 126) dX7_readWord_119 (by decide) (by omega) (fun c119 => ?_) (fun c119 => ?_)
      · refine z_iconst 0 dX7_readWord_126 rfl ?_
        refine z_istore_5 dX7_readWord_127 (Nat.le_of_ble_eq_true rfl) rfl ?_
        refine z_iload_5 dX7_readWord_129 ?_
        refine z_if_eq (tgt := 93) dX7_readWord_131 (by decide) ⟨by decide, by decide⟩ (fun c131 => ?_) (fun c131 => by exfalso; omega)
        refine z_iload_5 dX7_readWord_93 ?_
        refine z_if_eq (tgt := 163) dX7_readWord_95 (by decide) ⟨by decide, by decide⟩ (fun c95 => ?_) (fun c95 => by exfalso; omega)
        have hle : zlets cats row len (m + 1) (p + σ.1 0 27) = ([], p + σ.1 0 27) := zlets_no (by omega)
        rw [hle] at h
        have q3 := h (zsF (zsA σ 18 n (σ.1 0 26)) 0 29 (n + 1)) (by rw [zwr, zwr]; rw [if_pos i1]; exact (eqM.jF (by unfold zJ; omega) eqM.rfl')) (zsF_eq.trans (by unfold zdl; rw [if_neg (by simp only [List.length_nil]; omega)]; simp only [List.length_nil]; omega))
        rw [show n + 1 + (([] : List Int).length : Int) = n + 1 by simp] at q3
        exact q3
      · refine z_iconst 1 dX7_readWord_122 rfl ?_
        refine z_goto (tgt := 127) dX7_readWord_123 (by decide) ?_
        refine z_istore_5 dX7_readWord_127 (Nat.le_of_ble_eq_true rfl) rfl ?_
        refine z_iload_5 dX7_readWord_129 ?_
        refine z_if_eq (tgt := 93) dX7_readWord_131 (by decide) ⟨by decide, by decide⟩ (fun c131 => by exfalso; omega) (fun c131 => ?_)
        refine z_aload_0 dX7_readWord_134 ?_
        refine z_iload_3 dX7_readWord_135 ?_
        refine z_callV mX7_see [.int (zI (p + (σ.1 0 27)))] dX7_readWord_136 zk_X7_see zl_X7_125 ⟨Nat.le_of_ble_eq_true rfl, Nat.le_of_ble_eq_true rfl⟩ rfl rfl (Nat.le_of_ble_eq_true rfl) (Nat.le_of_ble_eq_true rfl) ?_
        refine N_X7_see T hT0 hT6 (zeqE (b := σ.1 0 10) ((zsF_ne (by omega)).trans zsA_F) (by omega)) cats row len (p + (σ.1 0 27)) ((zsF_W.trans (zsA_arr (by omega))).trans hc) ((zmr_cg (zsF_W.trans (zsA_arr (by omega)))).trans hrow) ((zsF_A.trans (zsA_ne1 (by omega))).trans hln) (by omega) (by omega) (by omega) hrow0 ?_
        refine z_b0 ?_
        have w3 := zsee_rg (cats := cats) (row := row) (len := len) hrow0 len.toNat (zst row len (p + (σ.1 0 27))) ((p + (σ.1 0 27)) + 1) (by omega) (by omega) (by omega) (by omega)
        refine z_aload_0 dX7_readWord_139 ?_
        refine z_getR (j := 1) dX7_readWord_140 zf_X7_7 rfl rfl ?_
        refine z_aload_0 dX7_readWord_143 ?_
        refine z_getI (j := 26) dX7_readWord_144 zf_X7_104 rfl rfl ?_
        refine z_top (b := (zsee cats row len len.toNat (zst row len (p + (σ.1 0 27))) ((p + (σ.1 0 27)) + 1)).1) ((zsF_ne (by omega)).trans zsF_eq) ?_
        refine z_iald dX7_readWord_147 rfl (by decide) (by omega) (by omega) ?_
        refine z_top (b := σ.2 1 ((zsee cats row len len.toNat (zst row len (p + (σ.1 0 27))) ((p + (σ.1 0 27)) + 1)).1)) (zsF_A.trans (zsF_A.trans (zsF_A.trans (zsA_ne1 (by omega))))) ?_
        have w4 : zR (σ.2 1 ((zsee cats row len len.toNat (zst row len (p + (σ.1 0 27))) ((p + (σ.1 0 27)) + 1)).1)) := hR.2 1 ((zsee cats row len len.toNat (zst row len (p + (σ.1 0 27))) ((p + (σ.1 0 27)) + 1)).1)
        refine z_bipush 11 dX7_readWord_148 (by decide +kernel) ?_
        refine z_icmp_ne (tgt := 157) dX7_readWord_150 (by decide) (by omega) ⟨by decide, by decide⟩ (fun c150 => ?_) (fun c150 => ?_)
        · refine z_iconst 0 dX7_readWord_157 rfl ?_
          refine z_istore_5 dX7_readWord_158 (Nat.le_of_ble_eq_true rfl) rfl ?_
          refine z_goto (tgt := 93) dX7_readWord_160 (by decide) ?_
          refine z_iload_5 dX7_readWord_93 ?_
          refine z_if_eq (tgt := 163) dX7_readWord_95 (by decide) ⟨by decide, by decide⟩ (fun c95 => ?_) (fun c95 => by exfalso; omega)
          rw [hc] at c150
          have hle : zlets cats row len (m + 1) (p + σ.1 0 27) = ([], p + σ.1 0 27) := zlets_ot (by omega) c150
          rw [hle] at h
          have q3 := h (zsF (zsF (zsF (zsA σ 18 n (σ.1 0 26)) 0 29 (n + 1)) 0 26 ((zsee cats row len len.toNat (zst row len (p + (σ.1 0 27))) ((p + (σ.1 0 27)) + 1)).1)) 0 27 ((zsee cats row len len.toNat (zst row len (p + (σ.1 0 27))) ((p + (σ.1 0 27)) + 1)).2 - (p + (σ.1 0 27)))) (by rw [zwr, zwr]; rw [if_pos i1]; exact (eqM.jF (by unfold zJ; omega) (eqM.jF (by unfold zJ; omega) (eqM.jF (by unfold zJ; omega) eqM.rfl')))) (((zsF_ne (by omega)).trans ((zsF_ne (by omega)).trans zsF_eq)).trans (by unfold zdl; rw [if_neg (by simp only [List.length_nil]; omega)]; simp only [List.length_nil]; omega))
          rw [show n + 1 + (([] : List Int).length : Int) = n + 1 by simp] at q3
          exact q3
        · refine z_iconst 1 dX7_readWord_153 rfl ?_
          refine z_goto (tgt := 158) dX7_readWord_154 (by decide) ?_
          refine z_istore_5 dX7_readWord_158 (Nat.le_of_ble_eq_true rfl) rfl ?_
          refine z_goto (tgt := 93) dX7_readWord_160 (by decide) ?_
          refine z_rg (fun hR9 => ?_)
          rw [hc] at c150
          have hle := zlets_le (cats := cats) (row := row) (len := len) (p := p + σ.1 0 27) (m := m) (by omega) c150
          have ew : (zsF (zsF (zsF (zsA σ 18 n (σ.1 0 26)) 0 29 (n + 1)) 0 26 ((zsee cats row len len.toNat (zst row len (p + (σ.1 0 27))) ((p + (σ.1 0 27)) + 1)).1)) 0 27 ((zsee cats row len len.toNat (zst row len (p + (σ.1 0 27))) ((p + (σ.1 0 27)) + 1)).2 - (p + (σ.1 0 27)))).1 0 27 = (zsee cats row len len.toNat (zst row len (p + σ.1 0 27)) ((p + σ.1 0 27) + 1)).2 - (p + σ.1 0 27) := zsF_eq
          have es : (zsF (zsF (zsF (zsA σ 18 n (σ.1 0 26)) 0 29 (n + 1)) 0 26 ((zsee cats row len len.toNat (zst row len (p + (σ.1 0 27))) ((p + (σ.1 0 27)) + 1)).1)) 0 27 ((zsee cats row len len.toNat (zst row len (p + (σ.1 0 27))) ((p + (σ.1 0 27)) + 1)).2 - (p + (σ.1 0 27)))).1 0 26 = (zsee cats row len len.toNat (zst row len (p + σ.1 0 27)) ((p + σ.1 0 27) + 1)).1 := (zsF_ne (by omega)).trans zsF_eq
          have el : (zsF (zsF (zsF (zsA σ 18 n (σ.1 0 26)) 0 29 (n + 1)) 0 26 ((zsee cats row len len.toNat (zst row len (p + (σ.1 0 27))) ((p + (σ.1 0 27)) + 1)).1)) 0 27 ((zsee cats row len len.toNat (zst row len (p + (σ.1 0 27))) ((p + (σ.1 0 27)) + 1)).2 - (p + (σ.1 0 27)))).1 0 29 = zdl (n + 1) := ((zsF_ne (by omega)).trans ((zsF_ne (by omega)).trans zsF_eq)).trans (by unfold zdl; rw [if_neg (by omega)])
          have en : (p + σ.1 0 27) + ((zsee cats row len len.toNat (zst row len (p + σ.1 0 27)) ((p + σ.1 0 27) + 1)).2 - (p + σ.1 0 27)) = (zsee cats row len len.toNat (zst row len (p + σ.1 0 27)) ((p + σ.1 0 27) + 1)).2 := by omega
          refine ih (zsF (zsF (zsF (zsA σ 18 n (σ.1 0 26)) 0 29 (n + 1)) 0 26 ((zsee cats row len len.toNat (zst row len (p + (σ.1 0 27))) ((p + (σ.1 0 27)) + 1)).1)) 0 27 ((zsee cats row len len.toNat (zst row len (p + (σ.1 0 27))) ((p + (σ.1 0 27)) + 1)).2 - (p + (σ.1 0 27)))) hR9 (n + 1) (p + σ.1 0 27) (zeqE (b := σ.1 0 10) ((zsF_ne (by omega)).trans ((zsF_ne (by omega)).trans ((zsF_ne (by omega)).trans zsA_F))) (by omega)) ((zsF_W.trans (zsF_W.trans (zsF_W.trans (zsA_arr (by omega))))).trans hc) ((zmr_cg (zsF_W.trans (zsF_W.trans (zsF_W.trans (zsA_arr (by omega)))))).trans hrow) ((zsF_A.trans (zsF_A.trans (zsF_A.trans (zsA_ne1 (by omega))))).trans hln) (by omega) (by omega) (by rw [es]; omega) (by rw [es]; omega) (by rw [ew]; omega) (by rw [ew]; omega) (by rw [ew]; omega) el (fun σ2 q1 q2 => ?_)
          rw [ew, en] at q1 q2 ⊢
          rw [es] at q1
          have q3 := h σ2 (by rw [hle, zwr]; exact q1.trans (eqM_wr _ _ _ _ (by rw [if_pos i1]; exact eqM.jF (by unfold zJ; omega) (eqM.jF (by unfold zJ; omega) (eqM.jF (by unfold zJ; omega) eqM.rfl'))))) (by rw [hle]; exact q2.trans (congrArg zdl (by simp only [List.length_cons]; omega)))
          rw [hle] at q3
          simp only [List.length_cons] at q3
          rw [show n + 1 + (((zlets cats row len m (zsee cats row len len.toNat (zst row len (p + σ.1 0 27)) ((p + σ.1 0 27) + 1)).2).1.length + 1 : Nat) : Int) = n + 1 + 1 + ((zlets cats row len m (zsee cats row len len.toNat (zst row len (p + σ.1 0 27)) ((p + σ.1 0 27) + 1)).2).1.length : Int) by omega] at q3
          exact q3
    · refine z_b0 ?_
      refine z_iinc_4 dX7_readWord_104 (Nat.le_of_ble_eq_true rfl) rfl ?_
      refine z_iload_3 dX7_readWord_107 ?_
      refine z_aload_0 dX7_readWord_108 ?_
      refine z_getI (j := 27) dX7_readWord_109 zf_X7_107 rfl rfl ?_
      have w5 : zR (σ.1 0 27) := hR.1 0 27
      refine z_iadd dX7_readWord_112 ?_
      refine z_istore_3 dX7_readWord_113 (Nat.le_of_ble_eq_true rfl) rfl ?_
      refine z_aload_0 dX7_readWord_114 ?_
      refine z_iload_3 dX7_readWord_115 ?_
      refine z_callV mX7_standing [.int (zI (p + (σ.1 0 27)))] dX7_readWord_116 zk_X7_standing zl_X7_100 ⟨Nat.le_of_ble_eq_true rfl, Nat.le_of_ble_eq_true rfl⟩ rfl rfl (Nat.le_of_ble_eq_true rfl) (Nat.le_of_ble_eq_true rfl) ?_
      refine N_X7_standing T hT0 hT6 (by omega) row len (p + (σ.1 0 27)) hrow hln (by omega) (by omega) (by omega) ?_
      refine z_b1 ?_
      have w6 := zst_R2 hrow0 len (p + (σ.1 0 27))
      refine z_if_lt (tgt := 126) dX7_readWord_119 (by decide) (by omega) (fun c119 => ?_) (fun c119 => ?_)
      · refine z_iconst 0 dX7_readWord_126 rfl ?_
        refine z_istore_5 dX7_readWord_127 (Nat.le_of_ble_eq_true rfl) rfl ?_
        refine z_iload_5 dX7_readWord_129 ?_
        refine z_if_eq (tgt := 93) dX7_readWord_131 (by decide) ⟨by decide, by decide⟩ (fun c131 => ?_) (fun c131 => by exfalso; omega)
        refine z_iload_5 dX7_readWord_93 ?_
        refine z_if_eq (tgt := 163) dX7_readWord_95 (by decide) ⟨by decide, by decide⟩ (fun c95 => ?_) (fun c95 => by exfalso; omega)
        have hle : zlets cats row len (m + 1) (p + σ.1 0 27) = ([], p + σ.1 0 27) := zlets_no (by omega)
        rw [hle] at h
        have q3 := h σ (by rw [zwr, zwr]; rw [if_neg (by omega)]; exact eqM.rfl') (hwl.trans (by unfold zdl; simp only [List.length_nil]; split <;> split <;> omega))
        rw [show n + 1 + (([] : List Int).length : Int) = n + 1 by simp] at q3
        exact q3
      · refine z_iconst 1 dX7_readWord_122 rfl ?_
        refine z_goto (tgt := 127) dX7_readWord_123 (by decide) ?_
        refine z_istore_5 dX7_readWord_127 (Nat.le_of_ble_eq_true rfl) rfl ?_
        refine z_iload_5 dX7_readWord_129 ?_
        refine z_if_eq (tgt := 93) dX7_readWord_131 (by decide) ⟨by decide, by decide⟩ (fun c131 => by exfalso; omega) (fun c131 => ?_)
        refine z_aload_0 dX7_readWord_134 ?_
        refine z_iload_3 dX7_readWord_135 ?_
        refine z_callV mX7_see [.int (zI (p + (σ.1 0 27)))] dX7_readWord_136 zk_X7_see zl_X7_125 ⟨Nat.le_of_ble_eq_true rfl, Nat.le_of_ble_eq_true rfl⟩ rfl rfl (Nat.le_of_ble_eq_true rfl) (Nat.le_of_ble_eq_true rfl) ?_
        refine N_X7_see T hT0 hT6 (by omega) cats row len (p + (σ.1 0 27)) hc hrow hln (by omega) (by omega) (by omega) hrow0 ?_
        refine z_b0 ?_
        have w7 := zsee_rg (cats := cats) (row := row) (len := len) hrow0 len.toNat (zst row len (p + (σ.1 0 27))) ((p + (σ.1 0 27)) + 1) (by omega) (by omega) (by omega) (by omega)
        refine z_aload_0 dX7_readWord_139 ?_
        refine z_getR (j := 1) dX7_readWord_140 zf_X7_7 rfl rfl ?_
        refine z_aload_0 dX7_readWord_143 ?_
        refine z_getI (j := 26) dX7_readWord_144 zf_X7_104 rfl rfl ?_
        refine z_top (b := (zsee cats row len len.toNat (zst row len (p + (σ.1 0 27))) ((p + (σ.1 0 27)) + 1)).1) ((zsF_ne (by omega)).trans zsF_eq) ?_
        refine z_iald dX7_readWord_147 rfl (by decide) (by omega) (by omega) ?_
        refine z_top (b := σ.2 1 ((zsee cats row len len.toNat (zst row len (p + (σ.1 0 27))) ((p + (σ.1 0 27)) + 1)).1)) (zsF_A.trans zsF_A) ?_
        have w8 : zR (σ.2 1 ((zsee cats row len len.toNat (zst row len (p + (σ.1 0 27))) ((p + (σ.1 0 27)) + 1)).1)) := hR.2 1 ((zsee cats row len len.toNat (zst row len (p + (σ.1 0 27))) ((p + (σ.1 0 27)) + 1)).1)
        refine z_bipush 11 dX7_readWord_148 (by decide +kernel) ?_
        refine z_icmp_ne (tgt := 157) dX7_readWord_150 (by decide) (by omega) ⟨by decide, by decide⟩ (fun c150 => ?_) (fun c150 => ?_)
        · refine z_iconst 0 dX7_readWord_157 rfl ?_
          refine z_istore_5 dX7_readWord_158 (Nat.le_of_ble_eq_true rfl) rfl ?_
          refine z_goto (tgt := 93) dX7_readWord_160 (by decide) ?_
          refine z_iload_5 dX7_readWord_93 ?_
          refine z_if_eq (tgt := 163) dX7_readWord_95 (by decide) ⟨by decide, by decide⟩ (fun c95 => ?_) (fun c95 => by exfalso; omega)
          rw [hc] at c150
          have hle : zlets cats row len (m + 1) (p + σ.1 0 27) = ([], p + σ.1 0 27) := zlets_ot (by omega) c150
          rw [hle] at h
          have q3 := h (zsF (zsF σ 0 26 ((zsee cats row len len.toNat (zst row len (p + (σ.1 0 27))) ((p + (σ.1 0 27)) + 1)).1)) 0 27 ((zsee cats row len len.toNat (zst row len (p + (σ.1 0 27))) ((p + (σ.1 0 27)) + 1)).2 - (p + (σ.1 0 27)))) (by rw [zwr, zwr]; rw [if_neg (by omega)]; exact (eqM.jF (by unfold zJ; omega) (eqM.jF (by unfold zJ; omega) eqM.rfl'))) (((zsF_ne (by omega)).trans ((zsF_ne (by omega)).trans hwl)).trans (by unfold zdl; simp only [List.length_nil]; split <;> split <;> omega))
          rw [show n + 1 + (([] : List Int).length : Int) = n + 1 by simp] at q3
          exact q3
        · refine z_iconst 1 dX7_readWord_153 rfl ?_
          refine z_goto (tgt := 158) dX7_readWord_154 (by decide) ?_
          refine z_istore_5 dX7_readWord_158 (Nat.le_of_ble_eq_true rfl) rfl ?_
          refine z_goto (tgt := 93) dX7_readWord_160 (by decide) ?_
          refine z_rg (fun hR9 => ?_)
          rw [hc] at c150
          have hle := zlets_le (cats := cats) (row := row) (len := len) (p := p + σ.1 0 27) (m := m) (by omega) c150
          have ew : (zsF (zsF σ 0 26 ((zsee cats row len len.toNat (zst row len (p + (σ.1 0 27))) ((p + (σ.1 0 27)) + 1)).1)) 0 27 ((zsee cats row len len.toNat (zst row len (p + (σ.1 0 27))) ((p + (σ.1 0 27)) + 1)).2 - (p + (σ.1 0 27)))).1 0 27 = (zsee cats row len len.toNat (zst row len (p + σ.1 0 27)) ((p + σ.1 0 27) + 1)).2 - (p + σ.1 0 27) := zsF_eq
          have es : (zsF (zsF σ 0 26 ((zsee cats row len len.toNat (zst row len (p + (σ.1 0 27))) ((p + (σ.1 0 27)) + 1)).1)) 0 27 ((zsee cats row len len.toNat (zst row len (p + (σ.1 0 27))) ((p + (σ.1 0 27)) + 1)).2 - (p + (σ.1 0 27)))).1 0 26 = (zsee cats row len len.toNat (zst row len (p + σ.1 0 27)) ((p + σ.1 0 27) + 1)).1 := (zsF_ne (by omega)).trans zsF_eq
          have el : (zsF (zsF σ 0 26 ((zsee cats row len len.toNat (zst row len (p + (σ.1 0 27))) ((p + (σ.1 0 27)) + 1)).1)) 0 27 ((zsee cats row len len.toNat (zst row len (p + (σ.1 0 27))) ((p + (σ.1 0 27)) + 1)).2 - (p + (σ.1 0 27)))).1 0 29 = zdl (n + 1) := ((zsF_ne (by omega)).trans ((zsF_ne (by omega)).trans hwl)).trans (by unfold zdl; split <;> split <;> omega)
          have en : (p + σ.1 0 27) + ((zsee cats row len len.toNat (zst row len (p + σ.1 0 27)) ((p + σ.1 0 27) + 1)).2 - (p + σ.1 0 27)) = (zsee cats row len len.toNat (zst row len (p + σ.1 0 27)) ((p + σ.1 0 27) + 1)).2 := by omega
          refine ih (zsF (zsF σ 0 26 ((zsee cats row len len.toNat (zst row len (p + (σ.1 0 27))) ((p + (σ.1 0 27)) + 1)).1)) 0 27 ((zsee cats row len len.toNat (zst row len (p + (σ.1 0 27))) ((p + (σ.1 0 27)) + 1)).2 - (p + (σ.1 0 27)))) hR9 (n + 1) (p + σ.1 0 27) (zeqE (b := σ.1 0 10) ((zsF_ne (by omega)).trans (zsF_ne (by omega))) (by omega)) ((zsF_W.trans zsF_W).trans hc) ((zmr_cg (zsF_W.trans zsF_W)).trans hrow) ((zsF_A.trans zsF_A).trans hln) (by omega) (by omega) (by rw [es]; omega) (by rw [es]; omega) (by rw [ew]; omega) (by rw [ew]; omega) (by rw [ew]; omega) el (fun σ2 q1 q2 => ?_)
          rw [ew, en] at q1 q2 ⊢
          rw [es] at q1
          have q3 := h σ2 (by rw [hle, zwr]; exact q1.trans (eqM_wr _ _ _ _ (by rw [if_neg (by omega)]; exact eqM.jF (by unfold zJ; omega) (eqM.jF (by unfold zJ; omega) eqM.rfl')))) (by rw [hle]; exact q2.trans (congrArg zdl (by simp only [List.length_cons]; omega)))
          rw [hle] at q3
          simp only [List.length_cons] at q3
          rw [show n + 1 + (((zlets cats row len m (zsee cats row len len.toNat (zst row len (p + σ.1 0 27)) ((p + σ.1 0 27) + 1)).2).1.length + 1 : Nat) : Int) = n + 1 + 1 + ((zlets cats row len m (zsee cats row len len.toNat (zst row len (p + σ.1 0 27)) ((p + σ.1 0 27) + 1)).2).1.length : Int) by omega] at q3
          exact q3

def zword (cats row : Int → Int) (len p : Int) : List Int × Int × Int :=
  if 0 ≤ zst row len p then (if cats (zsee cats row len len.toNat (zst row len p) (p + 1)).1 = 11 then ((zlets cats row len (len - p).toNat p).1, (zlets cats row len (len - p).toNat p).2, 2) else ([(zsee cats row len len.toNat (zst row len p) (p + 1)).1], (zsee cats row len len.toNat (zst row len p) (p + 1)).2, if cats (zsee cats row len len.toNat (zst row len p) (p + 1)).1 = 10 then 2 else 1)) else ([], p, 1)
def ztell (σ : zSt) (a c : Int) : zSt := if σ.1 0 24 < 100 then zsF (zrp σ 17 (3 * σ.1 0 24) a (σ.1 0 19) c) 0 24 (σ.1 0 24 + 1) else zsF σ 0 24 (σ.1 0 24 + 1)
def zrw (σ : zSt) (T : Int) (w : List Int × Int × Int) : zSt := zsA (if 40 < (w.1.length : Int) then ztell (zwr 18 σ 0 w.1) 3 0 else zwr 18 σ 0 w.1) 12 T w.2.2
theorem ztell_F {σ : zSt} {a c : Int} {i j : Nat} (h : ¬ (i = 0 ∧ j = 24)) : (ztell σ a c).1 i j = σ.1 i j := by
  unfold ztell; split
  · exact zsF_ne h
  · exact zsF_ne h
theorem ztell_A {σ : zSt} {a c : Int} {i : Nat} (h : i ≠ 17) : (ztell σ a c).2 i = σ.2 i := by
  unfold ztell; split
  · exact (zsA_arr h).trans ((zsA_arr h).trans (zsA_arr h))
  · rfl
theorem eqM.of_eq {a b : zSt} (h : a = b) : eqM a b := h ▸ eqM.rfl'
theorem zsA_comm {σ : zSt} {i k : Nat} {z w x y : Int} (h : i ≠ k) : zsA (zsA σ i z x) k w y = zsA (zsA σ k w y) i z x := by
  refine Prod.ext rfl (funext fun p => funext fun q => ?_)
  show (if p = k ∧ q = w then y else if p = i ∧ q = z then x else σ.2 p q) = (if p = i ∧ q = z then x else if p = k ∧ q = w then y else σ.2 p q)
  by_cases h1 : p = k ∧ q = w
  · rw [if_pos h1, if_neg (fun e => h (e.1.symm.trans h1.1)), if_pos h1]
  · rw [if_neg h1, if_neg h1]
theorem zsA_same {σ : zSt} {i : Nat} {z x y : Int} : zsA (zsA σ i z x) i z y = zsA σ i z y := by
  refine Prod.ext rfl (funext fun p => funext fun q => ?_)
  show (if p = i ∧ q = z then y else if p = i ∧ q = z then x else σ.2 p q) = (if p = i ∧ q = z then y else σ.2 p q)
  by_cases h1 : p = i ∧ q = z
  · rw [if_pos h1, if_pos h1]
  · rw [if_neg h1, if_neg h1, if_neg h1]
theorem zwr_comm {c i : Nat} {z x : Int} (h : i ≠ c) : ∀ (L : List Int) (σ : zSt) (k : Int), zwr c (zsA σ i z x) k L = zsA (zwr c σ k L) i z x
  | [], _, _ => rfl
  | s :: L, σ, k => by
    rw [zwr, zwr]
    by_cases hk : k < 40
    · rw [if_pos hk, if_pos hk, zsA_comm h]; exact zwr_comm h L _ _
    · rw [if_neg hk, if_neg hk]; exact zwr_comm h L _ _
theorem ztell_comm {σ : zSt} {a c z x : Int} {i : Nat} (h : i ≠ 17) : ztell (zsA σ i z x) a c = zsA (ztell σ a c) i z x := by
  unfold ztell
  show (if σ.1 0 24 < 100 then zsF (zrp (zsA σ i z x) 17 (3 * σ.1 0 24) a (σ.1 0 19) c) 0 24 (σ.1 0 24 + 1) else zsF (zsA σ i z x) 0 24 (σ.1 0 24 + 1)) = _
  split
  · show zsF (zrp (zsA σ i z x) 17 (3 * σ.1 0 24) a (σ.1 0 19) c) 0 24 (σ.1 0 24 + 1) = zsF (zsA (zrp σ 17 (3 * σ.1 0 24) a (σ.1 0 19) c) i z x) 0 24 (σ.1 0 24 + 1)
    unfold zrp
    rw [zsA_comm h, zsA_comm h, zsA_comm h]
  · rfl
theorem eqM_tell {a b : zSt} {x y : Int} (h : eqM a b) : eqM (ztell a x y) (ztell b x y) := by
  have h1 : a.1 0 24 = b.1 0 24 := h.1 0 24 (by unfold zJ; omega)
  have h2 : a.1 0 19 = b.1 0 19 := h.1 0 19 (by unfold zJ; omega)
  unfold ztell
  rw [h1, h2]
  split
  · exact ((h.A.A.A)).F
  · exact h.F
theorem M_X7_tellZ {G : zG} {σ : zSt} {Post : Option Value → zSt → Prop} (a c : Int) (ha : zR a) (hc : zR c) (hs0 : 0 ≤ σ.1 0 24) (hs : σ.1 0 24 < 2147483647) (h : Post none (ztell σ a c)) : zV G shM mX7_tell 0 (zini 3 [.ref (zad G 0), .int (zI a), .int (zI c)]) [] σ Post :=
  M_X7_tell a c ha hc hs0 hs (fun q => by unfold ztell at h; rw [if_pos q] at h; exact h) (fun q => by unfold ztell at h; rw [if_neg (Int.not_lt.mpr q)] at h; exact h)

set_option maxRecDepth 100000 in
theorem M_X7_readWord {G : zG} {σ : zSt} {Post : Option Value → zSt → Prop} (T : Int) (hT0 : 0 ≤ T) (hT6 : T < 6) (hT : σ.1 0 10 = T + 1) (cats row : Int → Int) (len fr : Int) (hc : σ.2 1 = cats) (hrow : zmr (σ.2 9) T = row) (hln : σ.2 10 T = len) (hl : len ≤ 121) (hrow0 : ∀ q, 0 ≤ row q ∧ row q ≤ 255) (hf0 : 0 ≤ fr) (hf : fr ≤ len) (hs0 : 0 ≤ σ.1 0 24) (hs : σ.1 0 24 < 2147483647) (h : ∀ σ2, eqM σ2 (zrw σ T (zword cats row len fr)) → σ2.1 0 29 = zdl ((zword cats row len fr).1.length : Int) → Post (some (.int (zI (zword cats row len fr).2.1))) σ2) : zV G shM mX7_readWord 0 (zini 6 [.ref (zad G 0), .int (zI fr)]) [] σ Post := by
  refine z_rg (fun hR => ?_)
  refine z_lv (lv' := [some (.ref (zad G 0)), some (.int (zI fr)), none, none, none, none]) rfl ?_
  have hst := zst_neg (row := row) (len := len) (p := fr) hrow0 hf0
  have hst2 := zst_pos (row := row) (len := len) (p := fr)
  refine z_aload_0 dX7_readWord_0 ?_
  refine z_getI (j := 10) dX7_readWord_1 zf_X7_90 rfl rfl ?_
  have w1 : zR (σ.1 0 10) := hR.1 0 10
  refine z_iconst 1 dX7_readWord_4 rfl ?_
  refine z_isub dX7_readWord_5 ?_
  refine z_top (b := T) (by omega) ?_
  refine z_istore_2 dX7_readWord_6 (Nat.le_of_ble_eq_true rfl) rfl ?_
  refine z_iload_1 dX7_readWord_7 ?_
  refine z_istore_3 dX7_readWord_8 (Nat.le_of_ble_eq_true rfl) rfl ?_
  refine z_iconst 0 dX7_readWord_9 rfl ?_
  refine z_istore_4 dX7_readWord_10 (Nat.le_of_ble_eq_true rfl) rfl ?_
  refine z_aload_0 dX7_readWord_12 ?_
  refine z_iconst 0 dX7_readWord_13 rfl ?_
  refine z_putI (j := 29) dX7_readWord_14 zp_X7_122 rfl rfl ⟨by decide, by decide⟩ ?_
  refine z_aload_0 dX7_readWord_17 ?_
  refine z_getR (j := 16) dX7_readWord_18 zf_X7_48 rfl rfl ?_
  refine z_iload_2 dX7_readWord_21 ?_
  refine z_iconst 1 dX7_readWord_22 rfl ?_
  refine z_iast dX7_readWord_23 rfl (by decide) (by omega) (by omega) ⟨by decide, by decide⟩ ?_
  refine z_aload_0 dX7_readWord_24 ?_
  refine z_iload_3 dX7_readWord_25 ?_
  refine z_callV mX7_standing [.int (zI fr)] dX7_readWord_26 zk_X7_standing zl_X7_100 ⟨Nat.le_of_ble_eq_true rfl, Nat.le_of_ble_eq_true rfl⟩ rfl rfl (Nat.le_of_ble_eq_true rfl) (Nat.le_of_ble_eq_true rfl) ?_
  refine N_X7_standing T hT0 hT6 (zeqE (b := σ.1 0 10) (zsA_F.trans (zsF_ne (by omega))) (by omega)) row len fr ((zmr_cg ((zsA_arr (by omega)).trans zsF_W)).trans hrow) (((zsA_ne1 (by omega)).trans zsF_A).trans hln) (by omega) (by omega) (by omega) ?_
  refine z_b1 ?_
  have w2 := zst_R2 hrow0 len fr
  refine z_if_ge (tgt := 34) dX7_readWord_29 (by decide) (by omega) (fun c29 => ?_) (fun c29 => ?_)
  · refine z_aload_0 dX7_readWord_34 ?_
    refine z_iload_3 dX7_readWord_35 ?_
    refine z_callV mX7_see [.int (zI fr)] dX7_readWord_36 zk_X7_see zl_X7_125 ⟨Nat.le_of_ble_eq_true rfl, Nat.le_of_ble_eq_true rfl⟩ rfl rfl (Nat.le_of_ble_eq_true rfl) (Nat.le_of_ble_eq_true rfl) ?_
    refine N_X7_see T hT0 hT6 (zeqE (b := σ.1 0 10) (zsA_F.trans (zsF_ne (by omega))) (by omega)) cats row len fr (((zsA_arr (by omega)).trans zsF_W).trans hc) ((zmr_cg ((zsA_arr (by omega)).trans zsF_W)).trans hrow) (((zsA_ne1 (by omega)).trans zsF_A).trans hln) (by omega) (by omega) (by omega) hrow0 ?_
    refine z_b0 ?_
    have w3 := zsee_rg (cats := cats) (row := row) (len := len) hrow0 len.toNat (zst row len fr) (fr + 1) (by omega) (by omega) (by omega) (by omega)
    refine z_aload_0 dX7_readWord_39 ?_
    refine z_getR (j := 1) dX7_readWord_40 zf_X7_7 rfl rfl ?_
    refine z_aload_0 dX7_readWord_43 ?_
    refine z_getI (j := 26) dX7_readWord_44 zf_X7_104 rfl rfl ?_
    refine z_top (b := (zsee cats row len len.toNat (zst row len fr) (fr + 1)).1) ((zsF_ne (by omega)).trans zsF_eq) ?_
    refine z_iald dX7_readWord_47 rfl (by decide) (by omega) (by omega) ?_
    refine z_top (b := σ.2 1 ((zsee cats row len len.toNat (zst row len fr) (fr + 1)).1)) (zsF_A.trans (zsF_A.trans ((zsA_ne1 (by omega)).trans zsF_A))) ?_
    have w4 : zR (σ.2 1 ((zsee cats row len len.toNat (zst row len fr) (fr + 1)).1)) := hR.2 1 ((zsee cats row len len.toNat (zst row len fr) (fr + 1)).1)
    refine z_bipush 11 dX7_readWord_48 (by decide +kernel) ?_
    refine z_icmp_eq (tgt := 90) dX7_readWord_50 (by decide) (by omega) ⟨by decide, by decide⟩ (fun c50 => ?_) (fun c50 => ?_)
    · refine z_iconst 1 dX7_readWord_90 rfl ?_
      refine z_istore_5 dX7_readWord_91 (Nat.le_of_ble_eq_true rfl) rfl ?_
      rw [hc] at c50
      have hle := zlets_le (cats := cats) (row := row) (len := len) (p := fr) (m := (len - fr).toNat - 1) (by omega) c50
      rw [show (len - fr).toNat - 1 + 1 = (len - fr).toNat by omega] at hle
      have e : zword cats row len fr = ((zlets cats row len (len - fr).toNat fr).1, (zlets cats row len (len - fr).toNat fr).2, 2) := (if_pos (by omega)).trans (if_pos c50)
      have ew : (zsF (zsF (zsA (zsF σ 0 29 0) 12 T 1) 0 26 ((zsee cats row len len.toNat (zst row len fr) (fr + 1)).1)) 0 27 ((zsee cats row len len.toNat (zst row len fr) (fr + 1)).2 - fr)).1 0 27 = (zsee cats row len len.toNat (zst row len fr) (fr + 1)).2 - fr := zsF_eq
      have es : (zsF (zsF (zsA (zsF σ 0 29 0) 12 T 1) 0 26 ((zsee cats row len len.toNat (zst row len fr) (fr + 1)).1)) 0 27 ((zsee cats row len len.toNat (zst row len fr) (fr + 1)).2 - fr)).1 0 26 = (zsee cats row len len.toNat (zst row len fr) (fr + 1)).1 := (zsF_ne (by omega)).trans zsF_eq
      have en : fr + ((zsee cats row len len.toNat (zst row len fr) (fr + 1)).2 - fr) = (zsee cats row len len.toNat (zst row len fr) (fr + 1)).2 := by omega
      refine z_rg (fun hR9 => ?_)
      refine L_X7_letters (σ := σ) T hT0 hT6 cats row len fr hl hrow0 ((len - fr).toNat - 1) (zsF (zsF (zsA (zsF σ 0 29 0) 12 T 1) 0 26 ((zsee cats row len len.toNat (zst row len fr) (fr + 1)).1)) 0 27 ((zsee cats row len len.toNat (zst row len fr) (fr + 1)).2 - fr)) hR9 0 fr (zeqE (b := σ.1 0 10) ((zsF_ne (by omega)).trans ((zsF_ne (by omega)).trans (zsA_F.trans (zsF_ne (by omega))))) (by omega)) ((zsF_W.trans (zsF_W.trans ((zsA_arr (by omega)).trans zsF_W))).trans hc) ((zmr_cg (zsF_W.trans (zsF_W.trans ((zsA_arr (by omega)).trans zsF_W)))).trans hrow) ((zsF_A.trans (zsF_A.trans ((zsA_ne1 (by omega)).trans zsF_A))).trans hln) (by omega) (by omega) (by rw [es]; omega) (by rw [es]; omega) (by rw [ew]; omega) (by rw [ew]; omega) (by rw [ew]; omega) ((zsF_ne (by omega)).trans ((zsF_ne (by omega)).trans (zsA_F.trans zsF_eq))) (fun σ2 q1 q2 => ?_)
      rw [ew, en] at q1 q2 ⊢
      rw [es] at q1
      rw [e] at h
      have hWL : (zsee cats row len len.toNat (zst row len fr) (fr + 1)).1 :: (zlets cats row len ((len - fr).toNat - 1) (zsee cats row len len.toNat (zst row len fr) (fr + 1)).2).1 = (zlets cats row len (len - fr).toNat fr).1 := by rw [hle]
      have hWE : (zlets cats row len ((len - fr).toNat - 1) (zsee cats row len len.toNat (zst row len fr) (fr + 1)).2).2 = (zlets cats row len (len - fr).toNat fr).2 := by rw [hle]
      have hWN : 0 + 1 + ((zlets cats row len ((len - fr).toNat - 1) (zsee cats row len len.toNat (zst row len fr) (fr + 1)).2).1.length : Int) = ((zlets cats row len (len - fr).toNat fr).1.length : Int) := by rw [← hWL]; simp only [List.length_cons]; omega
      have hlb := zlets_len (cats := cats) (row := row) (len := len) (len - fr).toNat fr
      rw [hWL] at q1
      rw [hWN] at q2 ⊢
      rw [hWE]
      generalize (zlets cats row len (len - fr).toNat fr).1 = WL at *
      generalize (zlets cats row len (len - fr).toNat fr).2 = pe at *
      obtain ⟨ne, hne⟩ : ∃ ne : Int, ne = (WL.length : Int) := ⟨_, rfl⟩
      dsimp only at h
      rw [← hne] at q2 h ⊢
      have q1' : eqM σ2 (zsA (zwr 18 σ 0 WL) 12 T 1) := q1.trans ((eqM_wr WL _ (zsA σ 12 T 1) 0 (eqM.jF (by unfold zJ; omega) (eqM.jF (by unfold zJ; omega) (eqM.A (eqM.jF (by unfold zJ; omega) eqM.rfl'))))).trans (eqM.of_eq (zwr_comm (by decide) WL σ 0)))
      have t1 : σ2.1 0 24 = σ.1 0 24 := (q1'.1 0 24 (by unfold zJ; omega)).trans (congrFun (congrFun (zwr_F WL σ 0) 0) 24)
      refine z_rg (fun hR2 => ?_)
      refine z_iload_4 dX7_readWord_163 ?_
      refine z_bipush 40 dX7_readWord_165 (by decide +kernel) ?_
      refine z_icmp_le (tgt := 176) dX7_readWord_167 (by decide) (by omega) ⟨by decide, by decide⟩ (fun c167 => ?_) (fun c167 => ?_)
      · refine z_aload_0 dX7_readWord_176 ?_
        refine z_getR (j := 16) dX7_readWord_177 zf_X7_48 rfl rfl ?_
        refine z_iload_2 dX7_readWord_180 ?_
        refine z_iconst 2 dX7_readWord_181 rfl ?_
        refine z_iast dX7_readWord_182 rfl (by decide) (by omega) (by omega) ⟨by decide, by decide⟩ ?_
        refine z_iload_3 dX7_readWord_183 ?_
        refine z_iret dX7_readWord_184 rfl ?_
        refine h _ ?_ q2
        unfold zrw
        dsimp only
        rw [if_neg (by omega)]
        refine eqM.trans (b := zsA (zsA (zwr 18 σ 0 WL) 12 T 1) 12 T 2) (eqM.A ?_) (eqM.of_eq zsA_same)
        exact q1'
      · refine z_aload_0 dX7_readWord_170 ?_
        refine z_iconst 3 dX7_readWord_171 rfl ?_
        refine z_iconst 0 dX7_readWord_172 rfl ?_
        refine z_callV mX7_tell [.int (zI 3), .int (zI 0)] dX7_readWord_173 zk_X7_tell zl_X7_132 ⟨Nat.le_of_ble_eq_true rfl, Nat.le_of_ble_eq_true rfl⟩ rfl rfl (Nat.le_of_ble_eq_true rfl) (Nat.le_of_ble_eq_true rfl) ?_
        refine M_X7_tellZ 3 0 (by omega) (by omega) (by omega) (by omega) ?_
        refine z_b0 ?_
        refine z_aload_0 dX7_readWord_176 ?_
        refine z_getR (j := 16) dX7_readWord_177 zf_X7_48 rfl rfl ?_
        refine z_iload_2 dX7_readWord_180 ?_
        refine z_iconst 2 dX7_readWord_181 rfl ?_
        refine z_iast dX7_readWord_182 rfl (by decide) (by omega) (by omega) ⟨by decide, by decide⟩ ?_
        refine z_iload_3 dX7_readWord_183 ?_
        refine z_iret dX7_readWord_184 rfl ?_
        refine h _ ?_ ((ztell_F (by omega)).trans q2)
        unfold zrw
        dsimp only
        rw [if_pos (by omega)]
        refine eqM.trans (b := zsA (zsA (ztell (zwr 18 σ 0 WL) 3 0) 12 T 1) 12 T 2) (eqM.A ?_) (eqM.of_eq zsA_same)
        rw [← ztell_comm (by decide)]
        exact eqM_tell q1'
    · refine z_aload_0 dX7_readWord_53 ?_
      refine z_iconst 0 dX7_readWord_54 rfl ?_
      refine z_callV mX7_addToWord [.int (zI 0)] dX7_readWord_55 zk_X7_addToWord zl_X7_129 ⟨Nat.le_of_ble_eq_true rfl, Nat.le_of_ble_eq_true rfl⟩ rfl rfl (Nat.le_of_ble_eq_true rfl) (Nat.le_of_ble_eq_true rfl) ?_
      refine N_X7_addToWord 0 ((zsee cats row len len.toNat (zst row len fr) (fr + 1)).1) ((zsF_ne (by omega)).trans zsF_eq) (by omega) (by omega) (fun i1 => ?_) (fun i1 => by exfalso; omega)
      refine z_b0 ?_
      refine z_aload_0 dX7_readWord_58 ?_
      refine z_getR (j := 16) dX7_readWord_59 zf_X7_48 rfl rfl ?_
      refine z_iload_2 dX7_readWord_62 ?_
      refine z_aload_0 dX7_readWord_63 ?_
      refine z_getR (j := 1) dX7_readWord_64 zf_X7_7 rfl rfl ?_
      refine z_aload_0 dX7_readWord_67 ?_
      refine z_getI (j := 26) dX7_readWord_68 zf_X7_104 rfl rfl ?_
      refine z_top (b := (zsee cats row len len.toNat (zst row len fr) (fr + 1)).1) ((zsF_ne (by omega)).trans (zsA_F.trans ((zsF_ne (by omega)).trans zsF_eq))) ?_
      refine z_iald dX7_readWord_71 rfl (by decide) (by omega) (by omega) ?_
      refine z_top (b := σ.2 1 ((zsee cats row len len.toNat (zst row len fr) (fr + 1)).1)) (zsF_A.trans ((zsA_ne1 (by omega)).trans (zsF_A.trans (zsF_A.trans ((zsA_ne1 (by omega)).trans zsF_A))))) ?_
      have w5 : zR (σ.2 1 ((zsee cats row len len.toNat (zst row len fr) (fr + 1)).1)) := hR.2 1 ((zsee cats row len len.toNat (zst row len fr) (fr + 1)).1)
      refine z_bipush 10 dX7_readWord_72 (by decide +kernel) ?_
      refine z_icmp_ne (tgt := 81) dX7_readWord_74 (by decide) (by omega) ⟨by decide, by decide⟩ (fun c74 => ?_) (fun c74 => ?_)
      · refine z_iconst 1 dX7_readWord_81 rfl ?_
        refine z_iast dX7_readWord_82 rfl (by decide) (by omega) (by omega) ⟨by decide, by decide⟩ ?_
        refine z_iload_3 dX7_readWord_83 ?_
        refine z_aload_0 dX7_readWord_84 ?_
        refine z_getI (j := 27) dX7_readWord_85 zf_X7_107 rfl rfl ?_
        refine z_top (b := ((zsee cats row len len.toNat (zst row len fr) (fr + 1)).2 - fr)) (zsA_F.trans ((zsF_ne (by omega)).trans (zsA_F.trans zsF_eq))) ?_
        refine z_iadd dX7_readWord_88 ?_
        refine z_iret dX7_readWord_89 rfl ?_
        rw [hc] at c50 c74
        have e : zword cats row len fr = ([(zsee cats row len len.toNat (zst row len fr) (fr + 1)).1], (zsee cats row len len.toNat (zst row len fr) (fr + 1)).2, 1) := (if_pos (by omega)).trans ((if_neg c50).trans (by rw [if_neg c74]))
        rw [e] at h
        refine zPe (h _ ?_ ((zsA_F.trans zsF_eq).trans (by unfold zdl; simp))) (by dsimp only; omega)
        refine eqM.trans (b := zsA (zsA (zsA σ 12 T 1) 18 0 (zsee cats row len len.toNat (zst row len fr) (fr + 1)).1) 12 T 1) (eqM.A (eqM.jF (by unfold zJ; omega) (eqM.A (eqM.jF (by unfold zJ; omega) (eqM.jF (by unfold zJ; omega) (eqM.A (eqM.jF (by unfold zJ; omega) eqM.rfl'))))))) (eqM.of_eq ?_)
        rw [zsA_ov (by decide)]
        rfl
      · refine z_iconst 2 dX7_readWord_77 rfl ?_
        refine z_goto (tgt := 82) dX7_readWord_78 (by decide) ?_
        refine z_iast dX7_readWord_82 rfl (by decide) (by omega) (by omega) ⟨by decide, by decide⟩ ?_
        refine z_iload_3 dX7_readWord_83 ?_
        refine z_aload_0 dX7_readWord_84 ?_
        refine z_getI (j := 27) dX7_readWord_85 zf_X7_107 rfl rfl ?_
        refine z_top (b := ((zsee cats row len len.toNat (zst row len fr) (fr + 1)).2 - fr)) (zsA_F.trans ((zsF_ne (by omega)).trans (zsA_F.trans zsF_eq))) ?_
        refine z_iadd dX7_readWord_88 ?_
        refine z_iret dX7_readWord_89 rfl ?_
        rw [hc] at c50 c74
        have e : zword cats row len fr = ([(zsee cats row len len.toNat (zst row len fr) (fr + 1)).1], (zsee cats row len len.toNat (zst row len fr) (fr + 1)).2, 2) := (if_pos (by omega)).trans ((if_neg c50).trans (by rw [if_pos c74]))
        rw [e] at h
        refine zPe (h _ ?_ ((zsA_F.trans zsF_eq).trans (by unfold zdl; simp))) (by dsimp only; omega)
        refine eqM.trans (b := zsA (zsA (zsA σ 12 T 1) 18 0 (zsee cats row len len.toNat (zst row len fr) (fr + 1)).1) 12 T 2) (eqM.A (eqM.jF (by unfold zJ; omega) (eqM.A (eqM.jF (by unfold zJ; omega) (eqM.jF (by unfold zJ; omega) (eqM.A (eqM.jF (by unfold zJ; omega) eqM.rfl'))))))) (eqM.of_eq ?_)
        rw [zsA_ov (by decide)]
        rfl
  · refine z_iload_3 dX7_readWord_32 ?_
    refine z_iret dX7_readWord_33 rfl ?_
    have e : zword cats row len fr = ([], fr, 1) := if_neg (by omega)
    rw [e] at h
    exact h _ (eqM.A (eqM.jF (by unfold zJ; omega) eqM.rfl')) ((zsA_F.trans zsF_eq).trans (by unfold zdl; simp))
end
