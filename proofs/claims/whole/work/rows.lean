section
-- ===== PART A: goes FIRST, ahead of the names: the tables' words, and 'selects' of the private methods out of them =====
/-- a private method of a class that the tables say can be made, by its rows of tables_1 -/
def lw_okq (q : MethodName × Nat) : Prop := (q.1.cls ≠ "java/lang/invoke/MethodHandle" ∧ q.1.cls ≠ "java/lang/invoke/VarHandle") ∧ Cond.instantiable q.1.cls q.2 ∈ tables_1 ∧ Cond.privateMethod q.1 ∈ tables_1 ∧ Cond.instanceMethod q.1 ∈ tables_1
theorem lw_p0 : lw_okq (⟨"RunBitmaps", "draftColumn", "(III)V"⟩, 5) := ⟨⟨by decide +kernel, by decide +kernel⟩, List.mem_of_getElem? (i := 8) (by decide +kernel), List.mem_of_getElem? (i := 66) (by decide +kernel), List.mem_of_getElem? (i := 67) (by decide +kernel)⟩
theorem lw_p1 : lw_okq (⟨"RunBitmaps$Shelf", "takeGroup", "()I"⟩, 3) := ⟨⟨by decide +kernel, by decide +kernel⟩, List.mem_of_getElem? (i := 16) (by decide +kernel), List.mem_of_getElem? (i := 100) (by decide +kernel), List.mem_of_getElem? (i := 101) (by decide +kernel)⟩
theorem lw_p2 : lw_okq (⟨"RunBitmaps$Shelf", "lastWord", "()I"⟩, 3) := ⟨⟨by decide +kernel, by decide +kernel⟩, List.mem_of_getElem? (i := 16) (by decide +kernel), List.mem_of_getElem? (i := 104) (by decide +kernel), List.mem_of_getElem? (i := 105) (by decide +kernel)⟩
theorem lw_p3 : lw_okq (⟨"RunBitmaps$Shelf", "addGroups", "(II)V"⟩, 3) := ⟨⟨by decide +kernel, by decide +kernel⟩, List.mem_of_getElem? (i := 16) (by decide +kernel), List.mem_of_getElem? (i := 121) (by decide +kernel), List.mem_of_getElem? (i := 122) (by decide +kernel)⟩
theorem lw_p4 : lw_okq (⟨"RunBitmaps$Shelf", "addWord", "(I)V"⟩, 3) := ⟨⟨by decide +kernel, by decide +kernel⟩, List.mem_of_getElem? (i := 16) (by decide +kernel), List.mem_of_getElem? (i := 125) (by decide +kernel), List.mem_of_getElem? (i := 126) (by decide +kernel)⟩
theorem lw_p5 : lw_okq (⟨"RunBitmaps", "stackUp", "(LRunBitmaps$Shelf;I)I"⟩, 5) := ⟨⟨by decide +kernel, by decide +kernel⟩, List.mem_of_getElem? (i := 8) (by decide +kernel), List.mem_of_getElem? (i := 134) (by decide +kernel), List.mem_of_getElem? (i := 135) (by decide +kernel)⟩
theorem lw_p6 : lw_okq (⟨"RunBitmaps$Shelf", "groupsAt", "(I)I"⟩, 3) := ⟨⟨by decide +kernel, by decide +kernel⟩, List.mem_of_getElem? (i := 16) (by decide +kernel), List.mem_of_getElem? (i := 151) (by decide +kernel), List.mem_of_getElem? (i := 152) (by decide +kernel)⟩
theorem lw_p7 : lw_okq (⟨"RunBitmaps", "replaceTop", "(I)I"⟩, 5) := ⟨⟨by decide +kernel, by decide +kernel⟩, List.mem_of_getElem? (i := 8) (by decide +kernel), List.mem_of_getElem? (i := 158) (by decide +kernel), List.mem_of_getElem? (i := 159) (by decide +kernel)⟩
theorem lw_p8 : lw_okq (⟨"RunBitmapsModel", "layValue", "(III)I"⟩, 10) := ⟨⟨by decide +kernel, by decide +kernel⟩, List.mem_of_getElem? (i := 233) (by decide +kernel), List.mem_of_getElem? (i := 281) (by decide +kernel), List.mem_of_getElem? (i := 282) (by decide +kernel)⟩
theorem lw_p9 : lw_okq (⟨"RunBitmapsModel", "goAlong", "(III)I"⟩, 10) := ⟨⟨by decide +kernel, by decide +kernel⟩, List.mem_of_getElem? (i := 233) (by decide +kernel), List.mem_of_getElem? (i := 285) (by decide +kernel), List.mem_of_getElem? (i := 286) (by decide +kernel)⟩
theorem lw_p10 : lw_okq (⟨"RunBitmapsModel", "see", "(I)V"⟩, 10) := ⟨⟨by decide +kernel, by decide +kernel⟩, List.mem_of_getElem? (i := 233) (by decide +kernel), List.mem_of_getElem? (i := 291) (by decide +kernel), List.mem_of_getElem? (i := 292) (by decide +kernel)⟩
theorem lw_p11 : lw_okq (⟨"RunBitmapsModel", "literal", "(II)I"⟩, 10) := ⟨⟨by decide +kernel, by decide +kernel⟩, List.mem_of_getElem? (i := 233) (by decide +kernel), List.mem_of_getElem? (i := 295) (by decide +kernel), List.mem_of_getElem? (i := 296) (by decide +kernel)⟩
theorem lw_p12 : lw_okq (⟨"RunBitmapsModel", "wordsOf", "(I)I"⟩, 10) := ⟨⟨by decide +kernel, by decide +kernel⟩, List.mem_of_getElem? (i := 233) (by decide +kernel), List.mem_of_getElem? (i := 309) (by decide +kernel), List.mem_of_getElem? (i := 310) (by decide +kernel)⟩
theorem lw_p13 : lw_okq (⟨"RunBitmapsModel", "comes", "(I)Z"⟩, 10) := ⟨⟨by decide +kernel, by decide +kernel⟩, List.mem_of_getElem? (i := 233) (by decide +kernel), List.mem_of_getElem? (i := 317) (by decide +kernel), List.mem_of_getElem? (i := 318) (by decide +kernel)⟩
theorem lw_p14 : lw_okq (⟨"RunBitmapsModel", "layJoined", "(IIIIII)I"⟩, 10) := ⟨⟨by decide +kernel, by decide +kernel⟩, List.mem_of_getElem? (i := 233) (by decide +kernel), List.mem_of_getElem? (i := 330) (by decide +kernel), List.mem_of_getElem? (i := 331) (by decide +kernel)⟩
theorem lw_p15 : lw_okq (⟨"RunBitmapsModel", "become", "(II)Z"⟩, 10) := ⟨⟨by decide +kernel, by decide +kernel⟩, List.mem_of_getElem? (i := 233) (by decide +kernel), List.mem_of_getElem? (i := 337) (by decide +kernel), List.mem_of_getElem? (i := 338) (by decide +kernel)⟩
def lw_privs_1 : List (MethodName × Nat) := [(⟨"RunBitmaps", "draftColumn", "(III)V"⟩, 5), (⟨"RunBitmaps$Shelf", "takeGroup", "()I"⟩, 3), (⟨"RunBitmaps$Shelf", "lastWord", "()I"⟩, 3), (⟨"RunBitmaps$Shelf", "addGroups", "(II)V"⟩, 3), (⟨"RunBitmaps$Shelf", "addWord", "(I)V"⟩, 3), (⟨"RunBitmaps", "stackUp", "(LRunBitmaps$Shelf;I)I"⟩, 5), (⟨"RunBitmaps$Shelf", "groupsAt", "(I)I"⟩, 3), (⟨"RunBitmaps", "replaceTop", "(I)I"⟩, 5), (⟨"RunBitmapsModel", "layValue", "(III)I"⟩, 10), (⟨"RunBitmapsModel", "goAlong", "(III)I"⟩, 10), (⟨"RunBitmapsModel", "see", "(I)V"⟩, 10), (⟨"RunBitmapsModel", "literal", "(II)I"⟩, 10), (⟨"RunBitmapsModel", "wordsOf", "(I)I"⟩, 10), (⟨"RunBitmapsModel", "comes", "(I)Z"⟩, 10), (⟨"RunBitmapsModel", "layJoined", "(IIIIII)I"⟩, 10), (⟨"RunBitmapsModel", "become", "(II)Z"⟩, 10)]
theorem lw_r1 : ∀ q ∈ lw_privs_1, lw_okq q := List.forall_mem_cons.mpr ⟨lw_p0, List.forall_mem_cons.mpr ⟨lw_p1, List.forall_mem_cons.mpr ⟨lw_p2, List.forall_mem_cons.mpr ⟨lw_p3, List.forall_mem_cons.mpr ⟨lw_p4, List.forall_mem_cons.mpr ⟨lw_p5, List.forall_mem_cons.mpr ⟨lw_p6, List.forall_mem_cons.mpr ⟨lw_p7, List.forall_mem_cons.mpr ⟨lw_p8, List.forall_mem_cons.mpr ⟨lw_p9, List.forall_mem_cons.mpr ⟨lw_p10, List.forall_mem_cons.mpr ⟨lw_p11, List.forall_mem_cons.mpr ⟨lw_p12, List.forall_mem_cons.mpr ⟨lw_p13, List.forall_mem_cons.mpr ⟨lw_p14, List.forall_mem_cons.mpr ⟨lw_p15, fun _ h => absurd h List.not_mem_nil⟩⟩⟩⟩⟩⟩⟩⟩⟩⟩⟩⟩⟩⟩⟩⟩
def lw_privs : List (MethodName × Nat) := lw_privs_1
def lw_tbl : List Cond := k2_sels lw_privs ++ tables_1
theorem lw_privs_ok : ∀ q ∈ lw_privs, lw_okq q := lw_r1
end
section
/-! names of the classes, their fields, their methods -/
def R_S : String := "RunBitmaps$Shelf"
def F_S : u_T := fun k => match k with
  | 0 => ("RunBitmaps$Shelf", "line", "[I", true)
  | 1 => ("RunBitmaps$Shelf", "bounds", "[I", true)
  | _ => ("RunBitmaps$Shelf", "sets", "I", false)
def t_S : Nat → FieldType := fun k => match k with
  | 0 => .array .int
  | 1 => .array .int
  | _ => .int
theorem n_S : ∀ a, a < 3 → ∀ b, b < 3 → a ≠ b → (F_S a).2.1 ≠ (F_S b).2.1 := by decide +kernel
theorem t_S_ok : ∀ k, k < 3 → parseFieldDescriptor (F_S k).2.2.1 = some (t_S k) := by decide +kernel
def R_B : String := "RunBitmaps"
def F_B : u_T := fun k => match k with
  | 0 => ("RunBitmaps", "columns", "LRunBitmaps$Shelf;", false)
  | 1 => ("RunBitmaps", "draft", "LRunBitmaps$Shelf;", false)
  | 2 => ("RunBitmaps", "stack", "LRunBitmaps$Shelf;", true)
  | 3 => ("RunBitmaps", "result", "LRunBitmaps$Shelf;", true)
  | _ => ("RunBitmaps", "rowCount", "I", false)
def t_B : Nat → FieldType := fun k => match k with
  | 0 => .object "RunBitmaps$Shelf"
  | 1 => .object "RunBitmaps$Shelf"
  | 2 => .object "RunBitmaps$Shelf"
  | 3 => .object "RunBitmaps$Shelf"
  | _ => .int
theorem n_B : ∀ a, a < 5 → ∀ b, b < 5 → a ≠ b → (F_B a).2.1 ≠ (F_B b).2.1 := by decide +kernel
theorem t_B_ok : ∀ k, k < 5 → parseFieldDescriptor (F_B k).2.2.1 = some (t_B k) := by decide +kernel
def R_M : String := "RunBitmapsModel"
def F_M : u_T := fun k => match k with
  | 0 => ("RunBitmapsModel", "ends", "[I", true)
  | 1 => ("RunBitmapsModel", "values", "[I", true)
  | 2 => ("RunBitmapsModel", "runs", "I", false)
  | 3 => ("RunBitmapsModel", "lines", "[I", true)
  | 4 => ("RunBitmapsModel", "begins", "[I", true)
  | 5 => ("RunBitmapsModel", "sets", "I", false)
  | 6 => ("RunBitmapsModel", "place", "I", false)
  | 7 => ("RunBitmapsModel", "wordsSeen", "I", false)
  | 8 => ("RunBitmapsModel", "wordWanted", "I", false)
  | _ => ("RunBitmapsModel", "wordFound", "I", false)
def t_M : Nat → FieldType := fun k => match k with
  | 0 => .array .int
  | 1 => .array .int
  | 2 => .int
  | 3 => .array .int
  | 4 => .array .int
  | 5 => .int
  | 6 => .int
  | 7 => .int
  | 8 => .int
  | _ => .int
theorem n_M : ∀ a, a < 10 → ∀ b, b < 10 → a ≠ b → (F_M a).2.1 ≠ (F_M b).2.1 := by decide +kernel
theorem t_M_ok : ∀ k, k < 10 → parseFieldDescriptor (F_M k).2.2.1 = some (t_M k) := by decide +kernel
def R_I : String := "java/lang/Integer"
def R_L : String := "RunBitmapsLaw"
abbrev classes : List vw_C := [(R_S, F_S, 3), (R_B, F_B, 5), (R_M, F_M, 10)]
abbrev b_B_init : ByteArray := prog_1_method_1_code
def y_B_init : MethodName := ⟨R_B, "<init>", "()V"⟩
abbrev b_S_init : ByteArray := prog_2_method_1_code
def y_S_init : MethodName := ⟨R_S, "<init>", "(II)V"⟩
abbrev b_S_open : ByteArray := prog_2_method_3_code
def y_S_open : MethodName := ⟨R_S, "open", "()V"⟩
abbrev b_B_append : ByteArray := prog_1_method_2_code
def y_B_append : MethodName := ⟨R_B, "append", "(III)I"⟩
abbrev b_B_isValue : ByteArray := prog_1_method_15_code
def y_B_isValue : MethodName := ⟨R_B, "isValue", "(I)Z"⟩
abbrev b_S_clear : ByteArray := prog_2_method_2_code
def y_S_clear : MethodName := ⟨R_S, "clear", "()V"⟩
abbrev b_B_draftColumn : ByteArray := prog_1_method_16_code
def y_B_draftColumn : MethodName := ⟨R_B, "draftColumn", "(III)V"⟩
abbrev b_S_addSet : ByteArray := prog_2_method_12_code
def y_S_addSet : MethodName := ⟨R_S, "addSet", "(LRunBitmaps$Shelf;I)V"⟩
abbrev b_S_size : ByteArray := prog_2_method_7_code
def y_S_size : MethodName := ⟨R_S, "size", "(I)I"⟩
abbrev b_S_startOf : ByteArray := prog_2_method_6_code
def y_S_startOf : MethodName := ⟨R_S, "startOf", "(I)I"⟩
abbrev b_S_used : ByteArray := prog_2_method_5_code
def y_S_used : MethodName := ⟨R_S, "used", "()I"⟩
abbrev b_S_addRows : ByteArray := prog_2_method_13_code
def y_S_addRows : MethodName := ⟨R_S, "addRows", "(ZII)V"⟩
abbrev b_S_takeGroup : ByteArray := prog_2_method_18_code
def y_S_takeGroup : MethodName := ⟨R_S, "takeGroup", "()I"⟩
abbrev b_S_lastWord : ByteArray := prog_2_method_19_code
def y_S_lastWord : MethodName := ⟨R_S, "lastWord", "()I"⟩
abbrev b_B_groupsOf : ByteArray := prog_1_method_20_code
def y_B_groupsOf : MethodName := ⟨R_B, "groupsOf", "(I)I"⟩
abbrev b_B_bitsOf : ByteArray := prog_1_method_21_code
def y_B_bitsOf : MethodName := ⟨R_B, "bitsOf", "(I)I"⟩
abbrev b_B_fillOf : ByteArray := prog_1_method_19_code
def y_B_fillOf : MethodName := ⟨R_B, "fillOf", "(II)I"⟩
abbrev b_B_firstBits : ByteArray := prog_1_method_22_code
def y_B_firstBits : MethodName := ⟨R_B, "firstBits", "(I)I"⟩
abbrev b_S_addGroups : ByteArray := prog_2_method_17_code
def y_S_addGroups : MethodName := ⟨R_S, "addGroups", "(II)V"⟩
abbrev b_S_addWord : ByteArray := prog_2_method_20_code
def y_S_addWord : MethodName := ⟨R_S, "addWord", "(I)V"⟩
abbrev b_B_push : ByteArray := prog_1_method_3_code
def y_B_push : MethodName := ⟨R_B, "push", "(II)I"⟩
abbrev b_B_stackUp : ByteArray := prog_1_method_17_code
def y_B_stackUp : MethodName := ⟨R_B, "stackUp", "(LRunBitmaps$Shelf;I)I"⟩
abbrev b_B_copy : ByteArray := prog_1_method_4_code
def y_B_copy : MethodName := ⟨R_B, "copy", "()I"⟩
abbrev b_B_join : ByteArray := prog_1_method_5_code
def y_B_join : MethodName := ⟨R_B, "join", "(I)I"⟩
abbrev b_S_addJoined : ByteArray := prog_2_method_14_code
def y_S_addJoined : MethodName := ⟨R_S, "addJoined", "(LRunBitmaps$Shelf;III)V"⟩
abbrev b_S_groupsAt : ByteArray := prog_2_method_15_code
def y_S_groupsAt : MethodName := ⟨R_S, "groupsAt", "(I)I"⟩
abbrev b_B_joinedBits : ByteArray := prog_1_method_23_code
def y_B_joinedBits : MethodName := ⟨R_B, "joinedBits", "(III)I"⟩
abbrev b_B_replaceTop : ByteArray := prog_1_method_18_code
def y_B_replaceTop : MethodName := ⟨R_B, "replaceTop", "(I)I"⟩
abbrev b_S_drop : ByteArray := prog_2_method_4_code
def y_S_drop : MethodName := ⟨R_S, "drop", "()V"⟩
abbrev b_B_not : ByteArray := prog_1_method_6_code
def y_B_not : MethodName := ⟨R_B, "not", "()I"⟩
abbrev b_S_addOthers : ByteArray := prog_2_method_16_code
def y_S_addOthers : MethodName := ⟨R_S, "addOthers", "(LRunBitmaps$Shelf;II)V"⟩
abbrev b_B_count : ByteArray := prog_1_method_7_code
def y_B_count : MethodName := ⟨R_B, "count", "()I"⟩
abbrev b_S_rowsOf : ByteArray := prog_2_method_9_code
def y_S_rowsOf : MethodName := ⟨R_S, "rowsOf", "(I)I"⟩
abbrev b_I_bitCount : ByteArray := prog_5_method_49_code
def y_I_bitCount : MethodName := ⟨R_I, "bitCount", "(I)I"⟩
abbrev b_B_after : ByteArray := prog_1_method_8_code
def y_B_after : MethodName := ⟨R_B, "after", "(I)I"⟩
abbrev b_S_firstFrom : ByteArray := prog_2_method_10_code
def y_S_firstFrom : MethodName := ⟨R_S, "firstFrom", "(II)I"⟩
abbrev b_S_firstInWord : ByteArray := prog_2_method_11_code
def y_S_firstInWord : MethodName := ⟨R_S, "firstInWord", "(II)I"⟩
abbrev b_I_numberOfTrailingZeros : ByteArray := prog_5_method_48_code
def y_I_numberOfTrailingZeros : MethodName := ⟨R_I, "numberOfTrailingZeros", "(I)I"⟩
abbrev b_B_words : ByteArray := prog_1_method_9_code
def y_B_words : MethodName := ⟨R_B, "words", "()I"⟩
abbrev b_B_word : ByteArray := prog_1_method_10_code
def y_B_word : MethodName := ⟨R_B, "word", "(I)I"⟩
abbrev b_S_wordOf : ByteArray := prog_2_method_8_code
def y_S_wordOf : MethodName := ⟨R_S, "wordOf", "(II)I"⟩
abbrev b_B_pop : ByteArray := prog_1_method_11_code
def y_B_pop : MethodName := ⟨R_B, "pop", "()I"⟩
abbrev b_B_room : ByteArray := prog_1_method_12_code
def y_B_room : MethodName := ⟨R_B, "room", "()I"⟩
abbrev b_B_stackRoom : ByteArray := prog_1_method_13_code
def y_B_stackRoom : MethodName := ⟨R_B, "stackRoom", "()I"⟩
abbrev b_B_rows : ByteArray := prog_1_method_14_code
def y_B_rows : MethodName := ⟨R_B, "rows", "()I"⟩
abbrev b_M_init : ByteArray := prog_4_method_1_code
def y_M_init : MethodName := ⟨R_M, "<init>", "()V"⟩
abbrev b_M_rows : ByteArray := prog_4_method_2_code
def y_M_rows : MethodName := ⟨R_M, "rows", "()I"⟩
abbrev b_M_room : ByteArray := prog_4_method_7_code
def y_M_room : MethodName := ⟨R_M, "room", "()I"⟩
abbrev b_M_layValue : ByteArray := prog_4_method_6_code
def y_M_layValue : MethodName := ⟨R_M, "layValue", "(III)I"⟩
abbrev b_M_goAlong : ByteArray := prog_4_method_5_code
def y_M_goAlong : MethodName := ⟨R_M, "goAlong", "(III)I"⟩
abbrev b_M_see : ByteArray := prog_4_method_3_code
def y_M_see : MethodName := ⟨R_M, "see", "(I)V"⟩
abbrev b_M_literal : ByteArray := prog_4_method_4_code
def y_M_literal : MethodName := ⟨R_M, "literal", "(II)I"⟩
abbrev b_M_append : ByteArray := prog_4_method_8_code
def y_M_append : MethodName := ⟨R_M, "append", "(III)I"⟩
abbrev b_M_stackRoom : ByteArray := prog_4_method_10_code
def y_M_stackRoom : MethodName := ⟨R_M, "stackRoom", "()I"⟩
abbrev b_M_wordsOf : ByteArray := prog_4_method_9_code
def y_M_wordsOf : MethodName := ⟨R_M, "wordsOf", "(I)I"⟩
abbrev b_M_push : ByteArray := prog_4_method_12_code
def y_M_push : MethodName := ⟨R_M, "push", "(II)I"⟩
abbrev b_M_comes : ByteArray := prog_4_method_11_code
def y_M_comes : MethodName := ⟨R_M, "comes", "(I)Z"⟩
abbrev b_M_copy : ByteArray := prog_4_method_13_code
def y_M_copy : MethodName := ⟨R_M, "copy", "()I"⟩
abbrev b_M_join : ByteArray := prog_4_method_17_code
def y_M_join : MethodName := ⟨R_M, "join", "(I)I"⟩
abbrev b_M_layJoined : ByteArray := prog_4_method_16_code
def y_M_layJoined : MethodName := ⟨R_M, "layJoined", "(IIIIII)I"⟩
abbrev b_M_is : ByteArray := prog_4_method_15_code
def y_M_is : MethodName := ⟨R_M, "is", "(IZZ)Z"⟩
abbrev b_M_become : ByteArray := prog_4_method_14_code
def y_M_become : MethodName := ⟨R_M, "become", "(II)Z"⟩
abbrev b_M_not : ByteArray := prog_4_method_18_code
def y_M_not : MethodName := ⟨R_M, "not", "()I"⟩
abbrev b_M_count : ByteArray := prog_4_method_19_code
def y_M_count : MethodName := ⟨R_M, "count", "()I"⟩
abbrev b_M_after : ByteArray := prog_4_method_20_code
def y_M_after : MethodName := ⟨R_M, "after", "(I)I"⟩
abbrev b_M_words : ByteArray := prog_4_method_21_code
def y_M_words : MethodName := ⟨R_M, "words", "()I"⟩
abbrev b_M_word : ByteArray := prog_4_method_22_code
def y_M_word : MethodName := ⟨R_M, "word", "(I)I"⟩
abbrev b_M_pop : ByteArray := prog_4_method_23_code
def y_M_pop : MethodName := ⟨R_M, "pop", "()I"⟩
end
section
/-! MY ROWS: the kit's rows over a bundle: the world ws, the locals lv, the operand stack st. -/
def gw : List Cond := lw_tbl.filter goodWord
theorem gw_good : ∀ w ∈ gw, (w.onTables && w.keeps) = true ∨ ∃ ty, w = Cond.arrayClass ty := fun w h => good_of_word (List.mem_filter.mp h).2
theorem gw_in {y : Cond} (hy : y ∈ gw) : GoodIn gw (y :: gw) := fun w hw => by
  rcases List.mem_cons.mp hw with rfl | h
  · exact ⟨hy, gw_good _ hy⟩
  · exact ⟨h, gw_good w h⟩
def isNest : Cond → Bool
  | .fieldLinkNest .. => true
  | .methodLinkNest .. => true
  | _ => false
def nw : List Cond := lw_tbl.filter isNest
def Nw (U : State) : Prop := ∀ w ∈ nw, va_Nw w U
theorem Nw.warm {s U : State} (hW : s.WarmedH U.vm) (h : Nw s) : Nw U := fun w hw => by
  have hk := (List.mem_filter.mp hw).2
  have h1 := h w hw
  cases w <;> first | exact va_Nw.warmF hW h1 | exact va_Nw.warmM hW h1 | (simp [isNest] at hk; done)
theorem Nw.same {s U : State} (e : s.vm = U.vm) (h : Nw s) : Nw U := fun w hw => by
  have hk := (List.mem_filter.mp hw).2
  have h1 := h w hw
  cases w <;> first | exact va_Nw.same rfl e h1 | (simp [isNest] at hk; done)
abbrev Sint : List (ClassId × FieldType) → ClassId → Prop := fun t cA => t = [(cA, FieldType.int)]
/-- what is fixed in a method's walk -/
def Cx (p : Program) (s : State) (m : MethodId) (args : Array Value) (meth : Method) (c : Code) (cc : ByteArray) (nL : Nat) (own : String) (D : va_G) (cA : ClassId) (A : Nat → Prop) : Prop :=
  p.tables.exec = Jvm.exec ∧ c.code = cc ∧ c.maxLocals = nL ∧ s.vm.findClass own = some m.cls ∧ (∀ w ∈ gw, w.before args s = true) ∧ va_K D classes [(cA, .int)] s ∧ Nw s ∧ (∀ q : Nat, s.heap.size ≤ q → A q) ∧ meth.locks = false
def X (p : Program) (l : Launch) (e : Env) (R : Room) (s : State) (m : MethodId) (args : Array Value) (below : List Frame) (meth : Method) (c : Code) (D : va_G) (A : Nat → Prop) (nL cells slots : Nat) (Q : State → Prop) (ws : va_W) (pc : Nat) (lv : List (Nat × Value)) (st : List Value) : Prop :=
  ∀ (H : Heap) (locs : List Loc) (ls : Array Slot), va_P D classes ws H → va_D A ws → va_S A s.heap H locs → lv_has ls nL lv → W p l e R s m args below meth c H locs cells slots Q (F0 m pc ls st)
def Pw (D : va_G) (cA : ClassId) (sz : Nat) (wc : va_W) (U : State) : Prop := U.heap.size = sz ∧ va_P D classes wc U.heap ∧ (va_K D classes [(cA, .int)] U ∧ Nw U) ∧ va_D (fun _ => True) wc
theorem Pw.blind {As : List Value} {D : va_G} {cA : ClassId} {sz : Nat} {wc : va_W} : FrameBlind (va_Pc As (Pw D cA sz wc)) := fun a U g mk q => by
  obtain ⟨q0, q1, qP, ⟨qK, qN⟩, qD⟩ := q
  exact ⟨q0, q1, qP, ⟨va_K.moved (u := U) (U := U.calling g mk a) (Vm.Alike.refl U.vm) qK, Nw.same (s := U) (U := U.calling g mk a) rfl qN⟩, qD⟩
def Bw {S : Type} (D : va_G) (A : Nat → Prop) (w1 : S → va_W) (u : S) (t : State) : Prop := va_P D classes (w1 u) t.heap ∧ va_D A (w1 u)
/-- contracts: an int comes back; nothing comes back -/
def CtI (l : Launch) (D : va_G) (cA : ClassId) (y : MethodName) (bytes : ByteArray) (maxL : Nat) (rt : Option FieldType) (rm : Room) (As : List Value) (wc : va_W) {S : Type} (post : Int32 → S → Prop) (w1 : S → va_W) : Prop :=
  ∀ sz : Nat, Met l y (.code y bytes maxL rt :: gw) rm (va_Pc As (Pw D cA sz wc)) (va_Qi post (Bw D (va_A wc sz) w1) (va_A wc sz)) rm.cells rm.slots (va_A wc sz)
def CtV (l : Launch) (D : va_G) (cA : ClassId) (y : MethodName) (bytes : ByteArray) (maxL : Nat) (rm : Room) (As : List Value) (wc : va_W) {S : Type} (post : S → Prop) (w1 : S → va_W) : Prop :=
  ∀ sz : Nat, Met l y (.code y bytes maxL none :: gw) rm (va_Pc As (Pw D cA sz wc)) (va_Qv post (Bw D (va_A wc sz) w1) (va_A wc sz)) rm.cells rm.slots (va_A wc sz)
section MK
variable {p : Program} {l : Launch} {e : Env} {R : Room} {s : State} {m : MethodId} {args : Array Value} {below : List Frame} {meth : Method} {c : Code} {D : va_G} {A : Nat → Prop} {nL cells slots : Nat} {Q : State → Prop}
variable {cc : ByteArray} {own : String} {cA : ClassId} {ws : va_W} {pc : Nat} {lv : List (Nat × Value)} {rest : List Value}
theorem lk_at {ls : Array Slot} {i : Nat} {v : Value} (h : lv_has ls nL lv) (hk : lv.lookup i = some v) : ls[i]? = some (.val v) := by
  refine h.2.2 (i, v) ?_
  clear h
  induction lv with
  | nil => cases hk
  | cons q lv ih =>
    rw [List.lookup_cons] at hk
    by_cases hq : i = q.1
    · subst hq
      simp at hk
      subst hk
      exact List.mem_cons_self
    · have hb : (i == q.1) = false := by simp [hq]
      rw [hb] at hk
      exact List.mem_cons_of_mem _ (ih hk)
/-- a new value for the top of the stack -/
theorem x_top {x y : Int32} (h : x = y) (k : X p l e R s m args below meth c D A nL cells slots Q ws pc lv (.int y :: rest)) : X p l e R s m args below meth c D A nL cells slots Q ws pc lv (.int x :: rest) := h ▸ k
/-- the world in another order -/
theorem x_perm {ws' : va_W} (is : List Nat) (hn : va_nd is = true) (h : is.map (fun i => ws[i]?) = ws'.map some) (k : X p l e R s m args below meth c D A nL cells slots Q ws' pc lv rest) : X p l e R s m args below meth c D A nL cells slots Q ws pc lv rest := fun H locs ls hP hD hS hl => by
  refine k H locs ls (fun j q hq => ?_) (hD.sub is hn h) hS hl
  have h1 : (is.map (fun i => ws[i]?))[j]? = some (some q) := by rw [h, List.getElem?_map, hq]; rfl
  rw [List.getElem?_map] at h1
  cases hi : is[j]? with
  | none => rw [hi] at h1; cases h1
  | some i => rw [hi] at h1; exact hP i q (Option.some.inj h1)
/-- fewer locals known -/
theorem x_lv {lv' : List (Nat × Value)} (h : lv'.all (fun q => decide (lv.lookup q.1 = some q.2)) = true ∨ ∀ q ∈ lv', lv.lookup q.1 = some q.2) (k : X p l e R s m args below meth c D A nL cells slots Q ws pc lv' rest) : X p l e R s m args below meth c D A nL cells slots Q ws pc lv rest := fun H locs ls hP hD hS hl => by
  refine k H locs ls hP hD hS ⟨hl.1, hl.2.1, fun q hq => lk_at hl ?_⟩
  rcases h with h | h
  · simpa using List.all_eq_true.mp h q hq
  · exact h q hq
theorem x_eq {ws' : va_W} (h : ws = ws') (k : X p l e R s m args below meth c D A nL cells slots Q ws' pc lv rest) : X p l e R s m args below meth c D A nL cells slots Q ws pc lv rest := h ▸ k

theorem x_iconst (C : Cx p s m args meth c cc nL own D cA A) {n : Int} {v : Int32} (hdg : decode cc pc = .ok (.iconst n, 1)) (hv : Int32.ofInt n = v) (k : X p l e R s m args below meth c D A nL cells slots Q ws (pc + 1) lv (.int v :: rest)) : X p l e R s m args below meth c D A nL cells slots Q ws pc lv rest := fun H locs ls hP hD hS hl => lv_iconst C.1 C.2.1 hdg hv (k H locs ls hP hD hS hl)
theorem x_bipush (C : Cx p s m args meth c cc nL own D cA A) {n : Int} {v : Int32} (hdg : decode cc pc = .ok (.bipush n, 2)) (hv : (Int8.ofInt n).toInt32 = v) (k : X p l e R s m args below meth c D A nL cells slots Q ws (pc + 2) lv (.int v :: rest)) : X p l e R s m args below meth c D A nL cells slots Q ws pc lv rest := fun H locs ls hP hD hS hl => lv_bipush C.1 C.2.1 hdg hv (k H locs ls hP hD hS hl)
theorem x_sipush (C : Cx p s m args meth c cc nL own D cA A) {n : Int} {v : Int32} (hdg : decode cc pc = .ok (.sipush n, 3)) (hv : (Int16.ofInt n).toInt32 = v) (k : X p l e R s m args below meth c D A nL cells slots Q ws (pc + 3) lv (.int v :: rest)) : X p l e R s m args below meth c D A nL cells slots Q ws pc lv rest := fun H locs ls hP hD hS hl => lv_sipush C.1 C.2.1 hdg hv (k H locs ls hP hD hS hl)
theorem x_ldc (C : Cx p s m args meth c cc nL own D cA A) {index : Nat} {v : Int32} (hdg : decode cc pc = .ok (.ldc index, 2)) (hv : Cond.constant own index v ∈ gw) (k : X p l e R s m args below meth c D A nL cells slots Q ws (pc + 2) lv (.int v :: rest)) : X p l e R s m args below meth c D A nL cells slots Q ws pc lv rest := fun H locs ls hP hD hS hl => lv_ldc C.1 C.2.1 C.2.2.2.1 (C.2.2.2.2.1 _ hv) hdg (k H locs ls hP hD hS hl)
theorem x_ldcw (C : Cx p s m args meth c cc nL own D cA A) {index : Nat} {v : Int32} (hdg : decode cc pc = .ok (.ldc_w index, 3)) (hv : Cond.constant own index v ∈ gw) (k : X p l e R s m args below meth c D A nL cells slots Q ws (pc + 3) lv (.int v :: rest)) : X p l e R s m args below meth c D A nL cells slots Q ws pc lv rest := fun H locs ls hP hD hS hl => lv_ldcw C.1 C.2.1 C.2.2.2.1 (C.2.2.2.2.1 _ hv) hdg (k H locs ls hP hD hS hl)
theorem x_iload_n (C : Cx p s m args meth c cc nL own D cA A) {k0 : Fin 4} {i : Nat} {x : Int32} (hdg : decode cc pc = .ok (.iload_n k0, 1)) (hi : (k0 : Nat) = i) (hv : lv.lookup i = some (.int x)) (k : X p l e R s m args below meth c D A nL cells slots Q ws (pc + 1) lv (.int x :: rest)) : X p l e R s m args below meth c D A nL cells slots Q ws pc lv rest := fun H locs ls hP hD hS hl => lv_iload_n C.1 C.2.1 hdg hi (lk_at hl hv) (k H locs ls hP hD hS hl)
theorem x_iload (C : Cx p s m args meth c cc nL own D cA A) {i : Nat} {x : Int32} (hdg : decode cc pc = .ok (.iload i, 2)) (hv : lv.lookup i = some (.int x)) (k : X p l e R s m args below meth c D A nL cells slots Q ws (pc + 2) lv (.int x :: rest)) : X p l e R s m args below meth c D A nL cells slots Q ws pc lv rest := fun H locs ls hP hD hS hl => lv_iload C.1 C.2.1 hdg (lk_at hl hv) (k H locs ls hP hD hS hl)
theorem x_aload_n (C : Cx p s m args meth c cc nL own D cA A) {k0 : Fin 4} {i : Nat} {x : Nat} (hdg : decode cc pc = .ok (.aload_n k0, 1)) (hi : (k0 : Nat) = i) (hv : lv.lookup i = some (.ref x)) (k : X p l e R s m args below meth c D A nL cells slots Q ws (pc + 1) lv (.ref x :: rest)) : X p l e R s m args below meth c D A nL cells slots Q ws pc lv rest := fun H locs ls hP hD hS hl => lv_aload_n C.1 C.2.1 hdg hi (lk_at hl hv) (k H locs ls hP hD hS hl)
theorem x_aload (C : Cx p s m args meth c cc nL own D cA A) {i : Nat} {x : Nat} (hdg : decode cc pc = .ok (.aload i, 2)) (hv : lv.lookup i = some (.ref x)) (k : X p l e R s m args below meth c D A nL cells slots Q ws (pc + 2) lv (.ref x :: rest)) : X p l e R s m args below meth c D A nL cells slots Q ws pc lv rest := fun H locs ls hP hD hS hl => lv_aload C.1 C.2.1 hdg (lk_at hl hv) (k H locs ls hP hD hS hl)
theorem x_istore_n (C : Cx p s m args meth c cc nL own D cA A) {k0 : Fin 4} {i : Nat} {x : Int32} {lv' : List (Nat × Value)} (hdg : decode cc pc = .ok (.istore_n k0, 1)) (hi : (k0 : Nat) = i) (hn : i < nL) (hv : (i, Value.int x) :: lv.filter (fun q => !(q.1 == i) && !(q.1 + 1 == i && q.2.category == 2)) = lv') (k : X p l e R s m args below meth c D A nL cells slots Q ws (pc + 1) lv' rest) : X p l e R s m args below meth c D A nL cells slots Q ws pc lv (Value.int x :: rest) := fun H locs ls hP hD hS hl => lv_istore_n C.1 C.2.1 hdg hi hl hn hv (fun ls hl => k H locs ls hP hD hS hl)
theorem x_istore (C : Cx p s m args meth c cc nL own D cA A) {i : Nat} {x : Int32} {lv' : List (Nat × Value)} (hdg : decode cc pc = .ok (.istore i, 2)) (hn : i < nL) (hv : (i, Value.int x) :: lv.filter (fun q => !(q.1 == i) && !(q.1 + 1 == i && q.2.category == 2)) = lv') (k : X p l e R s m args below meth c D A nL cells slots Q ws (pc + 2) lv' rest) : X p l e R s m args below meth c D A nL cells slots Q ws pc lv (Value.int x :: rest) := fun H locs ls hP hD hS hl => lv_istore C.1 C.2.1 hdg hl hn hv (fun ls hl => k H locs ls hP hD hS hl)
theorem x_astore_n (C : Cx p s m args meth c cc nL own D cA A) {k0 : Fin 4} {i : Nat} {x : Nat} {lv' : List (Nat × Value)} (hdg : decode cc pc = .ok (.astore_n k0, 1)) (hi : (k0 : Nat) = i) (hn : i < nL) (hv : (i, Value.ref x) :: lv.filter (fun q => !(q.1 == i) && !(q.1 + 1 == i && q.2.category == 2)) = lv') (k : X p l e R s m args below meth c D A nL cells slots Q ws (pc + 1) lv' rest) : X p l e R s m args below meth c D A nL cells slots Q ws pc lv (Value.ref x :: rest) := fun H locs ls hP hD hS hl => lv_astore_n C.1 C.2.1 hdg hi hl hn hv (fun ls hl => k H locs ls hP hD hS hl)
theorem x_astore (C : Cx p s m args meth c cc nL own D cA A) {i : Nat} {x : Nat} {lv' : List (Nat × Value)} (hdg : decode cc pc = .ok (.astore i, 2)) (hn : i < nL) (hv : (i, Value.ref x) :: lv.filter (fun q => !(q.1 == i) && !(q.1 + 1 == i && q.2.category == 2)) = lv') (k : X p l e R s m args below meth c D A nL cells slots Q ws (pc + 2) lv' rest) : X p l e R s m args below meth c D A nL cells slots Q ws pc lv (Value.ref x :: rest) := fun H locs ls hP hD hS hl => lv_astore C.1 C.2.1 hdg hl hn hv (fun ls hl => k H locs ls hP hD hS hl)
theorem x_iinc (C : Cx p s m args meth c cc nL own D cA A) {i : Nat} {n : Int} {x v : Int32} {lv' : List (Nat × Value)} (hdg : decode cc pc = .ok (.iinc i n, 3)) (hx : lv.lookup i = some (.int x)) (hv : x + Int32.ofInt n = v) (hn : i < nL) (hl' : (i, Value.int v) :: lv.filter (fun q => !(q.1 == i) && !(q.1 + 1 == i && q.2.category == 2)) = lv') (k : X p l e R s m args below meth c D A nL cells slots Q ws (pc + 3) lv' rest) : X p l e R s m args below meth c D A nL cells slots Q ws pc lv rest := fun H locs ls hP hD hS hl => by
  have h2 : lv_has ls nL ((i, Value.int x) :: lv) := ⟨hl.1, hl.2.1, fun q hq => by
    rcases List.mem_cons.mp hq with rfl | h
    · exact lk_at hl hx
    · exact hl.2.2 q h⟩
  refine lv_iinc (k := 0) C.1 C.2.1 hdg h2 rfl hv hn (lv' := lv') ?_ (fun ls hl => k H locs ls hP hD hS hl)
  rw [List.filter_cons_of_neg (by simp)]
  exact hl'
theorem x_iadd (C : Cx p s m args meth c cc nL own D cA A) {x y : Int32} (hdg : decode cc pc = .ok (.iadd, 1)) (k : X p l e R s m args below meth c D A nL cells slots Q ws (pc + 1) lv (.int (x + y) :: rest)) : X p l e R s m args below meth c D A nL cells slots Q ws pc lv (.int y :: .int x :: rest) := fun H locs ls hP hD hS hl => lv_iadd C.1 C.2.1 hdg (k H locs ls hP hD hS hl)
theorem x_isub (C : Cx p s m args meth c cc nL own D cA A) {x y : Int32} (hdg : decode cc pc = .ok (.isub, 1)) (k : X p l e R s m args below meth c D A nL cells slots Q ws (pc + 1) lv (.int (x - y) :: rest)) : X p l e R s m args below meth c D A nL cells slots Q ws pc lv (.int y :: .int x :: rest) := fun H locs ls hP hD hS hl => lv_isub C.1 C.2.1 hdg (k H locs ls hP hD hS hl)
theorem x_imul (C : Cx p s m args meth c cc nL own D cA A) {x y : Int32} (hdg : decode cc pc = .ok (.imul, 1)) (k : X p l e R s m args below meth c D A nL cells slots Q ws (pc + 1) lv (.int (x * y) :: rest)) : X p l e R s m args below meth c D A nL cells slots Q ws pc lv (.int y :: .int x :: rest) := fun H locs ls hP hD hS hl => lv_imul C.1 C.2.1 hdg (k H locs ls hP hD hS hl)
theorem x_iand (C : Cx p s m args meth c cc nL own D cA A) {x y : Int32} (hdg : decode cc pc = .ok (.iand, 1)) (k : X p l e R s m args below meth c D A nL cells slots Q ws (pc + 1) lv (.int (x &&& y) :: rest)) : X p l e R s m args below meth c D A nL cells slots Q ws pc lv (.int y :: .int x :: rest) := fun H locs ls hP hD hS hl => lv_iand C.1 C.2.1 hdg (k H locs ls hP hD hS hl)
theorem x_ior (C : Cx p s m args meth c cc nL own D cA A) {x y : Int32} (hdg : decode cc pc = .ok (.ior, 1)) (k : X p l e R s m args below meth c D A nL cells slots Q ws (pc + 1) lv (.int (x ||| y) :: rest)) : X p l e R s m args below meth c D A nL cells slots Q ws pc lv (.int y :: .int x :: rest) := fun H locs ls hP hD hS hl => lv_ior C.1 C.2.1 hdg (k H locs ls hP hD hS hl)
theorem x_ixor (C : Cx p s m args meth c cc nL own D cA A) {x y : Int32} (hdg : decode cc pc = .ok (.ixor, 1)) (k : X p l e R s m args below meth c D A nL cells slots Q ws (pc + 1) lv (.int (x ^^^ y) :: rest)) : X p l e R s m args below meth c D A nL cells slots Q ws pc lv (.int y :: .int x :: rest) := fun H locs ls hP hD hS hl => lv_ixor C.1 C.2.1 hdg (k H locs ls hP hD hS hl)
theorem x_ishl (C : Cx p s m args meth c cc nL own D cA A) {x y : Int32} (hdg : decode cc pc = .ok (.ishl, 1)) (k : X p l e R s m args below meth c D A nL cells slots Q ws (pc + 1) lv (.int (x <<< (y &&& 31)) :: rest)) : X p l e R s m args below meth c D A nL cells slots Q ws pc lv (.int y :: .int x :: rest) := fun H locs ls hP hD hS hl => lv_ishl C.1 C.2.1 hdg (k H locs ls hP hD hS hl)
theorem x_ishr (C : Cx p s m args meth c cc nL own D cA A) {x y : Int32} (hdg : decode cc pc = .ok (.ishr, 1)) (k : X p l e R s m args below meth c D A nL cells slots Q ws (pc + 1) lv (.int (x >>> (y &&& 31)) :: rest)) : X p l e R s m args below meth c D A nL cells slots Q ws pc lv (.int y :: .int x :: rest) := fun H locs ls hP hD hS hl => lv_ishr C.1 C.2.1 hdg (k H locs ls hP hD hS hl)
theorem x_iushr (C : Cx p s m args meth c cc nL own D cA A) {x y v : Int32} (hdg : decode cc pc = .ok (.iushr, 1)) (hv : (x.toUInt32 >>> (y.toUInt32 &&& Int32.toUInt32 31)).toInt32 = v) (k : X p l e R s m args below meth c D A nL cells slots Q ws (pc + 1) lv (.int v :: rest)) : X p l e R s m args below meth c D A nL cells slots Q ws pc lv (.int y :: .int x :: rest) := fun H locs ls hP hD hS hl => lv_iushr C.1 C.2.1 hdg hv (k H locs ls hP hD hS hl)
theorem x_idiv (C : Cx p s m args meth c cc nL own D cA A) {x y : Int32} (hdg : decode cc pc = .ok (.idiv, 1)) (hv : ¬ y = 0) (k : X p l e R s m args below meth c D A nL cells slots Q ws (pc + 1) lv (.int (x / y) :: rest)) : X p l e R s m args below meth c D A nL cells slots Q ws pc lv (.int y :: .int x :: rest) := fun H locs ls hP hD hS hl => lv_idiv C.1 C.2.1 hdg hv (k H locs ls hP hD hS hl)
theorem x_irem (C : Cx p s m args meth c cc nL own D cA A) {x y : Int32} (hdg : decode cc pc = .ok (.irem, 1)) (hv : ¬ y = 0) (k : X p l e R s m args below meth c D A nL cells slots Q ws (pc + 1) lv (.int (x - x / y * y) :: rest)) : X p l e R s m args below meth c D A nL cells slots Q ws pc lv (.int y :: .int x :: rest) := fun H locs ls hP hD hS hl => lv_irem C.1 C.2.1 hdg hv (k H locs ls hP hD hS hl)
theorem x_ineg (C : Cx p s m args meth c cc nL own D cA A) {x : Int32} (hdg : decode cc pc = .ok (.ineg, 1)) (k : X p l e R s m args below meth c D A nL cells slots Q ws (pc + 1) lv (.int (-x) :: rest)) : X p l e R s m args below meth c D A nL cells slots Q ws pc lv (.int x :: rest) := fun H locs ls hP hD hS hl => lv_ineg C.1 C.2.1 hdg (k H locs ls hP hD hS hl)
theorem x_dup (C : Cx p s m args meth c cc nL own D cA A) {v : Value} (hdg : decode cc pc = .ok (.dup, 1)) (hv : v.category = 1) (k : X p l e R s m args below meth c D A nL cells slots Q ws (pc + 1) lv (v :: v :: rest)) : X p l e R s m args below meth c D A nL cells slots Q ws pc lv (v :: rest) := fun H locs ls hP hD hS hl => lv_dup C.1 C.2.1 hdg hv (k H locs ls hP hD hS hl)
theorem x_dup_x1 (C : Cx p s m args meth c cc nL own D cA A) {v w : Value} (hdg : decode cc pc = .ok (.dup_x1, 1)) (hv : v.category = 1) (hw : w.category = 1) (k : X p l e R s m args below meth c D A nL cells slots Q ws (pc + 1) lv (v :: w :: v :: rest)) : X p l e R s m args below meth c D A nL cells slots Q ws pc lv (v :: w :: rest) := fun H locs ls hP hD hS hl => lv_dup_x1 C.1 C.2.1 hdg hv hw (k H locs ls hP hD hS hl)
theorem x_dup2 (C : Cx p s m args meth c cc nL own D cA A) {v w : Value} (hdg : decode cc pc = .ok (.dup2, 1)) (hv : v.category = 1) (hw : w.category = 1) (k : X p l e R s m args below meth c D A nL cells slots Q ws (pc + 1) lv (v :: w :: v :: w :: rest)) : X p l e R s m args below meth c D A nL cells slots Q ws pc lv (v :: w :: rest) := fun H locs ls hP hD hS hl => lv_dup2_11 C.1 C.2.1 hdg hv hw (k H locs ls hP hD hS hl)
theorem x_pop (C : Cx p s m args meth c cc nL own D cA A) {v : Value} (hdg : decode cc pc = .ok (.pop, 1)) (hv : v.category = 1) (k : X p l e R s m args below meth c D A nL cells slots Q ws (pc + 1) lv rest) : X p l e R s m args below meth c D A nL cells slots Q ws pc lv (v :: rest) := fun H locs ls hP hD hS hl => lv_pop C.1 C.2.1 hdg hv (k H locs ls hP hD hS hl)
theorem x_iaddN (C : Cx p s m args meth c cc nL own D cA A) {a b : Nat} (hdg : decode cc pc = .ok (.iadd, 1)) (k : X p l e R s m args below meth c D A nL cells slots Q ws (pc + 1) lv (.int (nI (a + b)) :: rest)) : X p l e R s m args below meth c D A nL cells slots Q ws pc lv (.int (nI b) :: .int (nI a) :: rest) := x_iadd C hdg (x_top (nI_add a b) k)
theorem x_isubN (C : Cx p s m args meth c cc nL own D cA A) {a b : Nat} (hdg : decode cc pc = .ok (.isub, 1)) (h : b ≤ a) (k : X p l e R s m args below meth c D A nL cells slots Q ws (pc + 1) lv (.int (nI (a - b)) :: rest)) : X p l e R s m args below meth c D A nL cells slots Q ws pc lv (.int (nI b) :: .int (nI a) :: rest) := x_isub C hdg (x_top (pk_sub h) k)
theorem x_imulN (C : Cx p s m args meth c cc nL own D cA A) {a b : Nat} (hdg : decode cc pc = .ok (.imul, 1)) (k : X p l e R s m args below meth c D A nL cells slots Q ws (pc + 1) lv (.int (nI (a * b)) :: rest)) : X p l e R s m args below meth c D A nL cells slots Q ws pc lv (.int (nI b) :: .int (nI a) :: rest) := x_imul C hdg (x_top (pk_mul a b) k)
theorem x_idivN (C : Cx p s m args meth c cc nL own D cA A) {a b : Nat} (hdg : decode cc pc = .ok (.idiv, 1)) (ha : a < 2 ^ 31) (h0 : 0 < b) (hb : b < 2 ^ 31) (k : X p l e R s m args below meth c D A nL cells slots Q ws (pc + 1) lv (.int (nI (a / b)) :: rest)) : X p l e R s m args below meth c D A nL cells slots Q ws pc lv (.int (nI b) :: .int (nI a) :: rest) := x_idiv C hdg (nI_ne0 h0 hb) (x_top (pk_div ha h0 hb) k)
theorem x_iremN (C : Cx p s m args meth c cc nL own D cA A) {a b : Nat} (hdg : decode cc pc = .ok (.irem, 1)) (ha : a < 2 ^ 31) (h0 : 0 < b) (hb : b < 2 ^ 31) (k : X p l e R s m args below meth c D A nL cells slots Q ws (pc + 1) lv (.int (nI (a % b)) :: rest)) : X p l e R s m args below meth c D A nL cells slots Q ws pc lv (.int (nI b) :: .int (nI a) :: rest) := x_irem C hdg (nI_ne0 h0 hb) (x_top (pk_rem ha h0 hb) k)
theorem x_iincN (C : Cx p s m args meth c cc nL own D cA A) {i a : Nat} {lv' : List (Nat × Value)} (hdg : decode cc pc = .ok (.iinc i 1, 3)) (hx : lv.lookup i = some (.int (nI a))) (hn : i < nL) (hl' : (i, Value.int (nI (a + 1))) :: lv.filter (fun q => !(q.1 == i) && !(q.1 + 1 == i && q.2.category == 2)) = lv') (k : X p l e R s m args below meth c D A nL cells slots Q ws (pc + 3) lv' rest) : X p l e R s m args below meth c D A nL cells slots Q ws pc lv rest := x_iinc C hdg hx (nI_1 a) hn hl' k
theorem x_if_eq (C : Cx p s m args meth c cc nL own D cA A) {x : Int32} {off : Int} {tgt : Nat} (hdg : decode cc pc = .ok (.ifCond .eq off, 3)) (ht : (pc : Int) + off = (tgt : Int)) (kt : x = 0 → X p l e R s m args below meth c D A nL cells slots Q ws tgt lv rest) (kf : ¬ x = 0 → X p l e R s m args below meth c D A nL cells slots Q ws (pc + 3) lv rest) : X p l e R s m args below meth c D A nL cells slots Q ws pc lv (.int x :: rest) := fun H locs ls hP hD hS hl => lv_if_eq C.1 C.2.1 hdg ht (fun q => kt q H locs ls hP hD hS hl) (fun q => kf q H locs ls hP hD hS hl)
theorem x_if_ne (C : Cx p s m args meth c cc nL own D cA A) {x : Int32} {off : Int} {tgt : Nat} (hdg : decode cc pc = .ok (.ifCond .ne off, 3)) (ht : (pc : Int) + off = (tgt : Int)) (kt : ¬ x = 0 → X p l e R s m args below meth c D A nL cells slots Q ws tgt lv rest) (kf : x = 0 → X p l e R s m args below meth c D A nL cells slots Q ws (pc + 3) lv rest) : X p l e R s m args below meth c D A nL cells slots Q ws pc lv (.int x :: rest) := fun H locs ls hP hD hS hl => lv_if_ne C.1 C.2.1 hdg ht (fun q => kt q H locs ls hP hD hS hl) (fun q => kf q H locs ls hP hD hS hl)
theorem x_if_lt (C : Cx p s m args meth c cc nL own D cA A) {x : Int32} {off : Int} {tgt : Nat} (hdg : decode cc pc = .ok (.ifCond .lt off, 3)) (ht : (pc : Int) + off = (tgt : Int)) (kt : x < 0 → X p l e R s m args below meth c D A nL cells slots Q ws tgt lv rest) (kf : ¬ x < 0 → X p l e R s m args below meth c D A nL cells slots Q ws (pc + 3) lv rest) : X p l e R s m args below meth c D A nL cells slots Q ws pc lv (.int x :: rest) := fun H locs ls hP hD hS hl => lv_if_lt C.1 C.2.1 hdg ht (fun q => kt q H locs ls hP hD hS hl) (fun q => kf q H locs ls hP hD hS hl)
theorem x_if_ge (C : Cx p s m args meth c cc nL own D cA A) {x : Int32} {off : Int} {tgt : Nat} (hdg : decode cc pc = .ok (.ifCond .ge off, 3)) (ht : (pc : Int) + off = (tgt : Int)) (kt : 0 ≤ x → X p l e R s m args below meth c D A nL cells slots Q ws tgt lv rest) (kf : ¬ 0 ≤ x → X p l e R s m args below meth c D A nL cells slots Q ws (pc + 3) lv rest) : X p l e R s m args below meth c D A nL cells slots Q ws pc lv (.int x :: rest) := fun H locs ls hP hD hS hl => lv_if_ge C.1 C.2.1 hdg ht (fun q => kt q H locs ls hP hD hS hl) (fun q => kf q H locs ls hP hD hS hl)
theorem x_if_gt (C : Cx p s m args meth c cc nL own D cA A) {x : Int32} {off : Int} {tgt : Nat} (hdg : decode cc pc = .ok (.ifCond .gt off, 3)) (ht : (pc : Int) + off = (tgt : Int)) (kt : 0 < x → X p l e R s m args below meth c D A nL cells slots Q ws tgt lv rest) (kf : ¬ 0 < x → X p l e R s m args below meth c D A nL cells slots Q ws (pc + 3) lv rest) : X p l e R s m args below meth c D A nL cells slots Q ws pc lv (.int x :: rest) := fun H locs ls hP hD hS hl => lv_if_gt C.1 C.2.1 hdg ht (fun q => kt q H locs ls hP hD hS hl) (fun q => kf q H locs ls hP hD hS hl)
theorem x_if_le (C : Cx p s m args meth c cc nL own D cA A) {x : Int32} {off : Int} {tgt : Nat} (hdg : decode cc pc = .ok (.ifCond .le off, 3)) (ht : (pc : Int) + off = (tgt : Int)) (kt : x ≤ 0 → X p l e R s m args below meth c D A nL cells slots Q ws tgt lv rest) (kf : ¬ x ≤ 0 → X p l e R s m args below meth c D A nL cells slots Q ws (pc + 3) lv rest) : X p l e R s m args below meth c D A nL cells slots Q ws pc lv (.int x :: rest) := fun H locs ls hP hD hS hl => lv_if_le C.1 C.2.1 hdg ht (fun q => kt q H locs ls hP hD hS hl) (fun q => kf q H locs ls hP hD hS hl)
theorem x_icmp_eq (C : Cx p s m args meth c cc nL own D cA A) {x y : Int32} {off : Int} {tgt : Nat} (hdg : decode cc pc = .ok (.if_icmp .eq off, 3)) (ht : (pc : Int) + off = (tgt : Int)) (kt : x = y → X p l e R s m args below meth c D A nL cells slots Q ws tgt lv rest) (kf : ¬ x = y → X p l e R s m args below meth c D A nL cells slots Q ws (pc + 3) lv rest) : X p l e R s m args below meth c D A nL cells slots Q ws pc lv (.int y :: .int x :: rest) := fun H locs ls hP hD hS hl => lv_icmp_eq C.1 C.2.1 hdg ht (fun q => kt q H locs ls hP hD hS hl) (fun q => kf q H locs ls hP hD hS hl)
theorem x_icmp_ne (C : Cx p s m args meth c cc nL own D cA A) {x y : Int32} {off : Int} {tgt : Nat} (hdg : decode cc pc = .ok (.if_icmp .ne off, 3)) (ht : (pc : Int) + off = (tgt : Int)) (kt : ¬ x = y → X p l e R s m args below meth c D A nL cells slots Q ws tgt lv rest) (kf : x = y → X p l e R s m args below meth c D A nL cells slots Q ws (pc + 3) lv rest) : X p l e R s m args below meth c D A nL cells slots Q ws pc lv (.int y :: .int x :: rest) := fun H locs ls hP hD hS hl => lv_icmp_ne C.1 C.2.1 hdg ht (fun q => kt q H locs ls hP hD hS hl) (fun q => kf q H locs ls hP hD hS hl)
theorem x_icmp_lt (C : Cx p s m args meth c cc nL own D cA A) {x y : Int32} {off : Int} {tgt : Nat} (hdg : decode cc pc = .ok (.if_icmp .lt off, 3)) (ht : (pc : Int) + off = (tgt : Int)) (kt : x < y → X p l e R s m args below meth c D A nL cells slots Q ws tgt lv rest) (kf : ¬ x < y → X p l e R s m args below meth c D A nL cells slots Q ws (pc + 3) lv rest) : X p l e R s m args below meth c D A nL cells slots Q ws pc lv (.int y :: .int x :: rest) := fun H locs ls hP hD hS hl => lv_icmp_lt C.1 C.2.1 hdg ht (fun q => kt q H locs ls hP hD hS hl) (fun q => kf q H locs ls hP hD hS hl)
theorem x_icmp_ge (C : Cx p s m args meth c cc nL own D cA A) {x y : Int32} {off : Int} {tgt : Nat} (hdg : decode cc pc = .ok (.if_icmp .ge off, 3)) (ht : (pc : Int) + off = (tgt : Int)) (kt : y ≤ x → X p l e R s m args below meth c D A nL cells slots Q ws tgt lv rest) (kf : ¬ y ≤ x → X p l e R s m args below meth c D A nL cells slots Q ws (pc + 3) lv rest) : X p l e R s m args below meth c D A nL cells slots Q ws pc lv (.int y :: .int x :: rest) := fun H locs ls hP hD hS hl => lv_icmp_ge C.1 C.2.1 hdg ht (fun q => kt q H locs ls hP hD hS hl) (fun q => kf q H locs ls hP hD hS hl)
theorem x_icmp_gt (C : Cx p s m args meth c cc nL own D cA A) {x y : Int32} {off : Int} {tgt : Nat} (hdg : decode cc pc = .ok (.if_icmp .gt off, 3)) (ht : (pc : Int) + off = (tgt : Int)) (kt : y < x → X p l e R s m args below meth c D A nL cells slots Q ws tgt lv rest) (kf : ¬ y < x → X p l e R s m args below meth c D A nL cells slots Q ws (pc + 3) lv rest) : X p l e R s m args below meth c D A nL cells slots Q ws pc lv (.int y :: .int x :: rest) := fun H locs ls hP hD hS hl => lv_icmp_gt C.1 C.2.1 hdg ht (fun q => kt q H locs ls hP hD hS hl) (fun q => kf q H locs ls hP hD hS hl)
theorem x_icmp_le (C : Cx p s m args meth c cc nL own D cA A) {x y : Int32} {off : Int} {tgt : Nat} (hdg : decode cc pc = .ok (.if_icmp .le off, 3)) (ht : (pc : Int) + off = (tgt : Int)) (kt : x ≤ y → X p l e R s m args below meth c D A nL cells slots Q ws tgt lv rest) (kf : ¬ x ≤ y → X p l e R s m args below meth c D A nL cells slots Q ws (pc + 3) lv rest) : X p l e R s m args below meth c D A nL cells slots Q ws pc lv (.int y :: .int x :: rest) := fun H locs ls hP hD hS hl => lv_icmp_le C.1 C.2.1 hdg ht (fun q => kt q H locs ls hP hD hS hl) (fun q => kf q H locs ls hP hD hS hl)
theorem x_icmp_eqN (C : Cx p s m args meth c cc nL own D cA A) {a b : Nat} {off : Int} {tgt : Nat} (hdg : decode cc pc = .ok (.if_icmp .eq off, 3)) (ht : (pc : Int) + off = (tgt : Int)) (ha : a < 2 ^ 31) (hb : b < 2 ^ 31) (kt : a = b → X p l e R s m args below meth c D A nL cells slots Q ws tgt lv rest) (kf : a ≠ b → X p l e R s m args below meth c D A nL cells slots Q ws (pc + 3) lv rest) : X p l e R s m args below meth c D A nL cells slots Q ws pc lv (.int (nI b) :: .int (nI a) :: rest) := x_icmp_eq C hdg ht (fun q => kt ((nI_eq ha hb).mp q)) (fun q => kf (fun z => q ((nI_eq ha hb).mpr z)))
theorem x_icmp_neN (C : Cx p s m args meth c cc nL own D cA A) {a b : Nat} {off : Int} {tgt : Nat} (hdg : decode cc pc = .ok (.if_icmp .ne off, 3)) (ht : (pc : Int) + off = (tgt : Int)) (ha : a < 2 ^ 31) (hb : b < 2 ^ 31) (kt : a ≠ b → X p l e R s m args below meth c D A nL cells slots Q ws tgt lv rest) (kf : a = b → X p l e R s m args below meth c D A nL cells slots Q ws (pc + 3) lv rest) : X p l e R s m args below meth c D A nL cells slots Q ws pc lv (.int (nI b) :: .int (nI a) :: rest) := x_icmp_ne C hdg ht (fun q => kt (fun z => q ((nI_eq ha hb).mpr z))) (fun q => kf ((nI_eq ha hb).mp q))
theorem x_icmp_ltN (C : Cx p s m args meth c cc nL own D cA A) {a b : Nat} {off : Int} {tgt : Nat} (hdg : decode cc pc = .ok (.if_icmp .lt off, 3)) (ht : (pc : Int) + off = (tgt : Int)) (ha : a < 2 ^ 31) (hb : b < 2 ^ 31) (kt : a < b → X p l e R s m args below meth c D A nL cells slots Q ws tgt lv rest) (kf : b ≤ a → X p l e R s m args below meth c D A nL cells slots Q ws (pc + 3) lv rest) : X p l e R s m args below meth c D A nL cells slots Q ws pc lv (.int (nI b) :: .int (nI a) :: rest) := x_icmp_lt C hdg ht (fun q => kt ((nI_ltI ha hb).mp q)) (fun q => kf (Nat.not_lt.mp fun z => q ((nI_ltI ha hb).mpr z)))
theorem x_icmp_geN (C : Cx p s m args meth c cc nL own D cA A) {a b : Nat} {off : Int} {tgt : Nat} (hdg : decode cc pc = .ok (.if_icmp .ge off, 3)) (ht : (pc : Int) + off = (tgt : Int)) (ha : a < 2 ^ 31) (hb : b < 2 ^ 31) (kt : b ≤ a → X p l e R s m args below meth c D A nL cells slots Q ws tgt lv rest) (kf : a < b → X p l e R s m args below meth c D A nL cells slots Q ws (pc + 3) lv rest) : X p l e R s m args below meth c D A nL cells slots Q ws pc lv (.int (nI b) :: .int (nI a) :: rest) := x_icmp_ge C hdg ht (fun q => kt ((nI_leI hb ha).mp q)) (fun q => kf (Nat.not_le.mp fun z => q ((nI_leI hb ha).mpr z)))
theorem x_icmp_gtN (C : Cx p s m args meth c cc nL own D cA A) {a b : Nat} {off : Int} {tgt : Nat} (hdg : decode cc pc = .ok (.if_icmp .gt off, 3)) (ht : (pc : Int) + off = (tgt : Int)) (ha : a < 2 ^ 31) (hb : b < 2 ^ 31) (kt : b < a → X p l e R s m args below meth c D A nL cells slots Q ws tgt lv rest) (kf : a ≤ b → X p l e R s m args below meth c D A nL cells slots Q ws (pc + 3) lv rest) : X p l e R s m args below meth c D A nL cells slots Q ws pc lv (.int (nI b) :: .int (nI a) :: rest) := x_icmp_gt C hdg ht (fun q => kt ((nI_ltI hb ha).mp q)) (fun q => kf (Nat.not_lt.mp fun z => q ((nI_ltI hb ha).mpr z)))
theorem x_icmp_leN (C : Cx p s m args meth c cc nL own D cA A) {a b : Nat} {off : Int} {tgt : Nat} (hdg : decode cc pc = .ok (.if_icmp .le off, 3)) (ht : (pc : Int) + off = (tgt : Int)) (ha : a < 2 ^ 31) (hb : b < 2 ^ 31) (kt : a ≤ b → X p l e R s m args below meth c D A nL cells slots Q ws tgt lv rest) (kf : b < a → X p l e R s m args below meth c D A nL cells slots Q ws (pc + 3) lv rest) : X p l e R s m args below meth c D A nL cells slots Q ws pc lv (.int (nI b) :: .int (nI a) :: rest) := x_icmp_le C hdg ht (fun q => kt ((nI_leI ha hb).mp q)) (fun q => kf (Nat.not_le.mp fun z => q ((nI_leI ha hb).mpr z)))
theorem x_if_eqN (C : Cx p s m args meth c cc nL own D cA A) {a : Nat} {off : Int} {tgt : Nat} (hdg : decode cc pc = .ok (.ifCond .eq off, 3)) (ht : (pc : Int) + off = (tgt : Int)) (ha : a < 2 ^ 31) (kt : a = 0 → X p l e R s m args below meth c D A nL cells slots Q ws tgt lv rest) (kf : 0 < a → X p l e R s m args below meth c D A nL cells slots Q ws (pc + 3) lv rest) : X p l e R s m args below meth c D A nL cells slots Q ws pc lv (.int (nI a) :: rest) := x_if_eq C hdg ht (fun q => kt (by rcases Nat.eq_zero_or_pos a with z | z; exact z; exact absurd q (nI_ne0 z ha))) (fun q => kf (Nat.pos_of_ne_zero fun z => q (by rw [z]; rfl)))
theorem x_if_neN (C : Cx p s m args meth c cc nL own D cA A) {a : Nat} {off : Int} {tgt : Nat} (hdg : decode cc pc = .ok (.ifCond .ne off, 3)) (ht : (pc : Int) + off = (tgt : Int)) (ha : a < 2 ^ 31) (kt : 0 < a → X p l e R s m args below meth c D A nL cells slots Q ws tgt lv rest) (kf : a = 0 → X p l e R s m args below meth c D A nL cells slots Q ws (pc + 3) lv rest) : X p l e R s m args below meth c D A nL cells slots Q ws pc lv (.int (nI a) :: rest) := x_if_ne C hdg ht (fun q => kt (Nat.pos_of_ne_zero fun z => q (by rw [z]; rfl))) (fun q => kf (by rcases Nat.eq_zero_or_pos a with z | z; exact z; exact absurd q (nI_ne0 z ha)))
theorem x_if_gtN (C : Cx p s m args meth c cc nL own D cA A) {a : Nat} {off : Int} {tgt : Nat} (hdg : decode cc pc = .ok (.ifCond .gt off, 3)) (ht : (pc : Int) + off = (tgt : Int)) (ha : a < 2 ^ 31) (kt : 0 < a → X p l e R s m args below meth c D A nL cells slots Q ws tgt lv rest) (kf : a = 0 → X p l e R s m args below meth c D A nL cells slots Q ws (pc + 3) lv rest) : X p l e R s m args below meth c D A nL cells slots Q ws pc lv (.int (nI a) :: rest) := x_if_gt C hdg ht (fun q => kt (Nat.pos_of_ne_zero fun z => absurd q (by rw [z]; decide))) (fun q => kf (by rcases Nat.eq_zero_or_pos a with z | z; exact z; exact absurd (nI_lt z ha) q))
theorem x_if_leN (C : Cx p s m args meth c cc nL own D cA A) {a : Nat} {off : Int} {tgt : Nat} (hdg : decode cc pc = .ok (.ifCond .le off, 3)) (ht : (pc : Int) + off = (tgt : Int)) (ha : a < 2 ^ 31) (kt : a = 0 → X p l e R s m args below meth c D A nL cells slots Q ws tgt lv rest) (kf : 0 < a → X p l e R s m args below meth c D A nL cells slots Q ws (pc + 3) lv rest) : X p l e R s m args below meth c D A nL cells slots Q ws pc lv (.int (nI a) :: rest) := x_if_le C hdg ht (fun q => kt (by rcases Nat.eq_zero_or_pos a with z | z; exact z; exact absurd q (nI_nle z ha))) (fun q => kf (Nat.pos_of_ne_zero fun z => q (by rw [z]; decide)))
theorem x_if_ltN (C : Cx p s m args meth c cc nL own D cA A) {a : Nat} {off : Int} {tgt : Nat} (hdg : decode cc pc = .ok (.ifCond .lt off, 3)) (ht : (pc : Int) + off = (tgt : Int)) (ha : a < 2 ^ 31) (kf : X p l e R s m args below meth c D A nL cells slots Q ws (pc + 3) lv rest) : X p l e R s m args below meth c D A nL cells slots Q ws pc lv (.int (nI a) :: rest) := x_if_lt C hdg ht (fun q => absurd q (nI_pos ha)) (fun _ => kf)
theorem x_if_geN (C : Cx p s m args meth c cc nL own D cA A) {a : Nat} {off : Int} {tgt : Nat} (hdg : decode cc pc = .ok (.ifCond .ge off, 3)) (ht : (pc : Int) + off = (tgt : Int)) (ha : a < 2 ^ 31) (kt : X p l e R s m args below meth c D A nL cells slots Q ws tgt lv rest) : X p l e R s m args below meth c D A nL cells slots Q ws pc lv (.int (nI a) :: rest) := x_if_ge C hdg ht (fun _ => kt) (fun q => absurd (nI_pos' ha) q)
theorem x_goto (C : Cx p s m args meth c cc nL own D cA A) {off : Int} {tgt : Nat} (hdg : decode cc pc = .ok (.goto off, 3)) (ht : (pc : Int) + off = (tgt : Int)) (k : X p l e R s m args below meth c D A nL cells slots Q ws tgt lv rest) : X p l e R s m args below meth c D A nL cells slots Q ws pc lv rest := fun H locs ls hP hD hS hl => lv_goto C.1 C.2.1 hdg ht (k H locs ls hP hD hS hl)
theorem x_get (C : Cx p s m args meth c cc nL own D cA A) {a : Nat} {ref C0 : String} {T : u_T} {N ci index : Nat} (hdg : decode cc pc = .ok (.getfield index, 3)) (q0 : Nat) {fs : List Value} (he : ws[q0]? = some (a, .inr (ci, fs))) (hc : classes[ci]? = some (C0, T, N)) (hin : ∀ w ∈ u_ws C0 T N, w ∈ gw) (k0 : Nat) (hk : k0 < N) (hlink : Cond.fieldLink own index ref (T k0).2.1 (T k0).2.2.1 ∈ gw) (hsame : (T k0).1 = ref) {v : Value} (hv : fs[k0]? = some v) (k : X p l e R s m args below meth c D A nL cells slots Q ws (pc + 3) lv (v :: rest)) : X p l e R s m args below meth c D A nL cells slots Q ws pc lv (.ref a :: rest) := fun H locs ls hP hD hS hl => by
  obtain ⟨hx, hb, hml, hown, hts, hK, hN, hA, hlk⟩ := C
  exact va_get hx hb hts hin hown hK hP q0 he hc k0 hk (hts _ hlink) (fun x h => by rw [← hsame]; exact h) hv hdg (k H locs ls hP hD hS hl)
theorem x_getN (C : Cx p s m args meth c cc nL own D cA A) {a : Nat} {ref C0 host : String} {T : u_T} {N ci index : Nat} (hdg : decode cc pc = .ok (.getfield index, 3)) (q0 : Nat) {fs : List Value} (he : ws[q0]? = some (a, .inr (ci, fs))) (hc : classes[ci]? = some (C0, T, N)) (hin : ∀ w ∈ u_ws C0 T N, w ∈ gw) (k0 : Nat) (hk : k0 < N) (hlink : Cond.fieldLinkNest own index ref (T k0).2.1 (T k0).2.2.1 host ∈ nw) (hsame : (T k0).1 = ref) {v : Value} (hv : fs[k0]? = some v) (k : X p l e R s m args below meth c D A nL cells slots Q ws (pc + 3) lv (v :: rest)) : X p l e R s m args below meth c D A nL cells slots Q ws pc lv (.ref a :: rest) := fun H locs ls hP hD hS hl => by
  obtain ⟨hx, hb, hml, hown, hts, hK, hN, hA, hlk⟩ := C
  exact va_getN hx hb hts hin hown hK hP q0 he hc k0 hk (va_Nw.use rfl (hN _ hlink)) (fun x h => by rw [← hsame]; exact h) hv hdg (k H locs ls hP hD hS hl)
theorem x_put (C : Cx p s m args meth c cc nL own D cA A) {a : Nat} {ref C0 : String} {T : u_T} {N ci index : Nat} (hdg : decode cc pc = .ok (.putfield index, 3)) (q0 : Nat) {fs : List Value} (he : ws[q0]? = some (a, .inr (ci, fs))) (hc : classes[ci]? = some (C0, T, N)) (hin : ∀ w ∈ u_ws C0 T N, w ∈ gw) (ty0 : Nat → FieldType) (hty : ∀ k, k < N → parseFieldDescriptor (T k).2.2.1 = some (ty0 k)) (hnm : ∀ a, a < N → ∀ b, b < N → a ≠ b → (T a).2.1 ≠ (T b).2.1) (k0 : Nat) (hk : k0 < N) (hlink : Cond.fieldLink own index ref (T k0).2.1 (T k0).2.2.1 ∈ gw) (hsame : (T k0).1 = ref) (hfin : (T k0).2.2.2 = false) {ty : FieldType} {v : Value} (hd : parseFieldDescriptor (T k0).2.2.1 = some ty) (hn : narrow ty v = v) (hfit : fits ty v = true) (hlen : k0 < fs.length) {ws' : va_W} (hw : ws.set q0 (a, .inr (ci, fs.set k0 v)) = ws') (k : X p l e R s m args below meth c D A nL cells slots Q ws' (pc + 3) lv rest) : X p l e R s m args below meth c D A nL cells slots Q ws pc lv (v :: .ref a :: rest) := fun H locs ls hP hD hS hl => by
  obtain ⟨hx, hb, hml, hown, hts, hK, hN, hA, hlk⟩ := C
  subst hw
  exact va_put hx hb hts hin ty0 hty hnm hown hK hP hD hS q0 he hc k0 hk (hts _ hlink) (fun x h => by rw [← hsame]; exact h) hfin hd hn hfit hlen hdg (fun H1 locs1 hP hD hS => k H1 locs1 ls hP hD hS hl)
theorem x_putN (C : Cx p s m args meth c cc nL own D cA A) {a : Nat} {ref C0 host : String} {T : u_T} {N ci index : Nat} (hdg : decode cc pc = .ok (.putfield index, 3)) (q0 : Nat) {fs : List Value} (he : ws[q0]? = some (a, .inr (ci, fs))) (hc : classes[ci]? = some (C0, T, N)) (hin : ∀ w ∈ u_ws C0 T N, w ∈ gw) (ty0 : Nat → FieldType) (hty : ∀ k, k < N → parseFieldDescriptor (T k).2.2.1 = some (ty0 k)) (hnm : ∀ a, a < N → ∀ b, b < N → a ≠ b → (T a).2.1 ≠ (T b).2.1) (k0 : Nat) (hk : k0 < N) (hlink : Cond.fieldLinkNest own index ref (T k0).2.1 (T k0).2.2.1 host ∈ nw) (hsame : (T k0).1 = ref) (hfin : (T k0).2.2.2 = false) {ty : FieldType} {v : Value} (hd : parseFieldDescriptor (T k0).2.2.1 = some ty) (hn : narrow ty v = v) (hfit : fits ty v = true) (hlen : k0 < fs.length) {ws' : va_W} (hw : ws.set q0 (a, .inr (ci, fs.set k0 v)) = ws') (k : X p l e R s m args below meth c D A nL cells slots Q ws' (pc + 3) lv rest) : X p l e R s m args below meth c D A nL cells slots Q ws pc lv (v :: .ref a :: rest) := fun H locs ls hP hD hS hl => by
  obtain ⟨hx, hb, hml, hown, hts, hK, hN, hA, hlk⟩ := C
  subst hw
  exact va_putN hx hb hts hin ty0 hty hnm hown hK hP hD hS q0 he hc k0 hk (va_Nw.use rfl (hN _ hlink)) (fun x h => by rw [← hsame]; exact h) hfin hd hn hfit hlen hdg (fun H1 locs1 hP hD hS => k H1 locs1 ls hP hD hS hl)
theorem x_putF (C : Cx p s m args meth c cc nL own D cA A) (hin2 : meth.name = "<init>") {a : Nat} {ref C0 : String} {T : u_T} {N ci index : Nat} (hdg : decode cc pc = .ok (.putfield index, 3)) (q0 : Nat) {fs : List Value} (he : ws[q0]? = some (a, .inr (ci, fs))) (hc : classes[ci]? = some (C0, T, N)) (hin : ∀ w ∈ u_ws C0 T N, w ∈ gw) (ty0 : Nat → FieldType) (hty : ∀ k, k < N → parseFieldDescriptor (T k).2.2.1 = some (ty0 k)) (hnm : ∀ a, a < N → ∀ b, b < N → a ≠ b → (T a).2.1 ≠ (T b).2.1) (k0 : Nat) (hk : k0 < N) (hlink : Cond.fieldLink own index ref (T k0).2.1 (T k0).2.2.1 ∈ gw) (hsame : (T k0).1 = ref) (hfin : (T k0).2.2.2 = true) (hdecl : (T k0).1 = own) {ty : FieldType} {v : Value} (hd : parseFieldDescriptor (T k0).2.2.1 = some ty) (hn : narrow ty v = v) (hfit : fits ty v = true) (hlen : k0 < fs.length) {ws' : va_W} (hw : ws.set q0 (a, .inr (ci, fs.set k0 v)) = ws') (k : X p l e R s m args below meth c D A nL cells slots Q ws' (pc + 3) lv rest) : X p l e R s m args below meth c D A nL cells slots Q ws pc lv (v :: .ref a :: rest) := fun H locs ls hP hD hS hl => by
  obtain ⟨hx, hb, hml, hown, hts, hK, hN, hA, hlk⟩ := C
  subst hw
  exact va_putF hx hb hts hin ty0 hty hnm hown hK hP hD hS q0 he hc k0 hk (hts _ hlink) (fun x h => by rw [← hsame]; exact h) hfin hin2 hdecl hd hn hfit hlen hdg (fun H1 locs1 hP hD hS => k H1 locs1 ls hP hD hS hl)
theorem x_iald (C : Cx p s m args meth c cc nL own D cA A) {a n j : Nat} {f : Nat → Int32} (hdg : decode cc pc = .ok (.iaload, 1)) (q0 : Nat) (ha : ws[q0]? = some (a, .inl (cA, n, .inl f))) (hj : j < n) (hn : n < 2 ^ 31) (k : X p l e R s m args below meth c D A nL cells slots Q ws (pc + 1) lv (.int (f j) :: rest)) : X p l e R s m args below meth c D A nL cells slots Q ws pc lv (.int (nI j) :: .ref a :: rest) := fun H locs ls hP hD hS hl => by
  obtain ⟨hx, hb, hml, hown, hts, hK, hN, hA, hlk⟩ := C
  refine va_iald hx hb hK hP q0 0 ha rfl (vp_in_nI hj hn) hdg ?_
  rw [nI_clamp (by omega)]
  exact (k H locs ls hP hD hS hl)
theorem x_iast (C : Cx p s m args meth c cc nL own D cA A) {a n j : Nat} {f : Nat → Int32} {x : Int32} (hdg : decode cc pc = .ok (.iastore, 1)) (q0 : Nat) (ha : ws[q0]? = some (a, .inl (cA, n, .inl f))) (hj : j < n) (hn : n < 2 ^ 31) {ws' : va_W} (hw : ws.set q0 (a, .inl (cA, n, .inl (upd f j x))) = ws') (k : X p l e R s m args below meth c D A nL cells slots Q ws' (pc + 1) lv rest) : X p l e R s m args below meth c D A nL cells slots Q ws pc lv (.int x :: .int (nI j) :: .ref a :: rest) := fun H locs ls hP hD hS hl => by
  obtain ⟨hx, hb, hml, hown, hts, hK, hN, hA, hlk⟩ := C
  subst hw
  refine va_iast hx hb hK hP hD hS q0 0 ha rfl (vp_in_nI hj hn) hdg ?_
  rw [nI_clamp (by omega)]
  exact fun H1 locs1 hP hD hS => k H1 locs1 ls hP hD hS hl
theorem x_alen (C : Cx p s m args meth c cc nL own D cA A) {a n : Nat} {f : Nat → Int32} (hdg : decode cc pc = .ok (.arraylength, 1)) (q0 : Nat) (ha : ws[q0]? = some (a, .inl (cA, n, .inl f))) (k : X p l e R s m args below meth c D A nL cells slots Q ws (pc + 1) lv (.int (nI n) :: rest)) : X p l e R s m args below meth c D A nL cells slots Q ws pc lv (.ref a :: rest) := fun H locs ls hP hD hS hl => by
  obtain ⟨hx, hb, hml, hown, hts, hK, hN, hA, hlk⟩ := C
  exact va_alen hx hb hK hP q0 0 ha (ty := .int) rfl rfl hdg (k H locs ls hP hD hS hl)
theorem x_newa (C : Cx p s m args meth c cc nL own D cA A) {N' : Nat} (hdg : decode cc pc = .ok (.newarray .int, 2)) (harr : Cond.arrayClass .int ∈ gw) (hN' : N' < 2 ^ 24) (hcells : cells + 1 ≤ R.cells) (hslots : slots + N' ≤ R.slots) (k : ∀ q : Nat, X p l e R s m args below meth c D A nL (cells + 1) (slots + N') Q (ws ++ [(q, .inl (cA, N', .inl (fun _ => 0)))]) (pc + 2) lv (.ref q :: rest)) : X p l e R s m args below meth c D A nL cells slots Q ws pc lv (.int (nI N') :: rest) := fun H locs ls hP hD hS hl => by
  obtain ⟨hx, hb, hml, hown, hts, hK, hN, hA, hlk⟩ := C
  refine va_newa (atype := .int) (ty := .int) (N' := N') (a0 := (N', .inl (fun _ => 0))) hx hb (hts _ harr) rfl hK hP hD hS hA (fun cA => by rfl) (nI_pos (by omega)) (nI_clamp (by omega)) (by show N' * 4 ≤ _; omega) hcells hslots hdg ?_
  intro q cA' H1 hK1 hP1 hD1 hS1
  have e1 := (hK1.2 0 (cA, .int) rfl).2
  have e2 := (hK1.2 1 (cA', .int) rfl).2
  have e3 : cA' = cA := Option.some.inj ((show s.vm.findClass _ = some cA' from e2).symm.trans (show s.vm.findClass _ = some cA from e1))
  subst e3
  exact k q H1 locs ls hP1 hD1 hS1 hl
theorem x_new (C : Cx p s m args meth c cc nL own D cA A) {C0 : String} {T : u_T} {N ci index : Nat} (hdg : decode cc pc = .ok (.new index, 3)) (hc : classes[ci]? = some (C0, T, N)) (hin : ∀ w ∈ u_ws C0 T N, w ∈ gw) (ty : Nat → FieldType) (hty : ∀ k, k < N → parseFieldDescriptor (T k).2.2.1 = some (ty k)) (hcl : Cond.classLink own index C0 ∈ gw) (hinst : Cond.instantiable C0 N ∈ gw) (hini : Cond.initialized C0 ∈ gw) {fs : List Value} (hfs : ∀ j, j < N → defaultValue (ty j) = vp_V fs j) (hcells : cells + 1 ≤ R.cells) (hslots : slots + N ≤ R.slots) (k : ∀ q : Nat, X p l e R s m args below meth c D A nL (cells + 1) (slots + N) Q (ws ++ [(q, .inr (ci, fs))]) (pc + 3) lv (.ref q :: rest)) : X p l e R s m args below meth c D A nL cells slots Q ws pc lv rest := fun H locs ls hP hD hS hl => by
  obtain ⟨hx, hb, hml, hown, hts, hK, hN, hA, hlk⟩ := C
  exact va_new hx hb hts hin ty hty hown (hts _ hcl) (hts _ hinst) (hts _ hini) hK hP hD hS hA hc hfs hcells hslots hdg (fun q H1 hP hD hS => k q H1 locs ls hP hD hS hl)
theorem x_objInit (C : Cx p s m args meth c cc nL own D cA A) {a idx : Nat} (hdg : decode cc pc = .ok (.invokespecial idx, 3)) (hlink : Cond.methodLink own idx Lib.objectInit ∈ gw) (hinst : Cond.instanceMethod Lib.objectInit ∈ gw) (hcode : Cond.code Lib.objectInit ⟨#[0xb1]⟩ 1 none ∈ gw) (hframes : 1 ≤ R.frames) (hlocals : (rest.map fun v => v.category).sum + 12 ≤ R.locals) (k : X p l e R s m args below meth c D A nL cells slots Q ws (pc + 3) lv rest) : X p l e R s m args below meth c D A nL cells slots Q ws pc lv (.ref a :: rest) := fun H locs ls hP hD hS hl => by
  obtain ⟨hx, hb, hml, hown, hts, hK, hN, hA, hlk⟩ := C
  exact W.objInit hx hb hown (hts _ hlink) (hts _ hinst) (hts _ hcode) rfl (by rw [hml]; exact hl.1) rfl hdg hframes (by show 2 * 0 + _ + 12 ≤ _; omega) (k H locs ls hP hD hS hl)
theorem x_mmax (C : Cx p s m args meth c cc nL own D cA A) {x y : Int32} {index : Nat} (hdg : decode cc pc = .ok (.invokestatic index, 3)) (hlink : Cond.methodLink own index Lib.Math.max.name ∈ gw) (hstat : Cond.static Lib.Math.max.name ∈ gw) (hini : Cond.initialized "java/lang/Math" ∈ gw) (hcode : Cond.code Lib.Math.max.name Lib.Math.max.code 2 (some .int) ∈ gw) (hR : 1 ≤ R.frames ∧ (rest.map fun v => v.category).sum + 13 ≤ R.locals ∧ cells ≤ R.cells ∧ slots ≤ R.slots) (k : X p l e R s m args below meth c D A nL cells slots Q ws (pc + 3) lv (.int (if x < y then y else x) :: rest)) : X p l e R s m args below meth c D A nL cells slots Q ws pc lv (.int y :: .int x :: rest) := fun H locs ls hP hD hS hl => by
  obtain ⟨hx, hb, hml, hown, hts, hK, hN, hA, hlk⟩ := C
  exact va_mmax hx hb (hml.trans hl.1.symm) hown (hts _ hlink) (hts _ hstat) (hts _ hini) (hts _ hcode) hR.1 hR.2.1 hR.2.2.1 hR.2.2.2 hdg (k H locs ls hP hD hS hl)
theorem x_mmin (C : Cx p s m args meth c cc nL own D cA A) {x y : Int32} {index : Nat} (hdg : decode cc pc = .ok (.invokestatic index, 3)) (hlink : Cond.methodLink own index Lib.Math.min.name ∈ gw) (hstat : Cond.static Lib.Math.min.name ∈ gw) (hini : Cond.initialized "java/lang/Math" ∈ gw) (hcode : Cond.code Lib.Math.min.name Lib.Math.min.code 2 (some .int) ∈ gw) (hR : 1 ≤ R.frames ∧ (rest.map fun v => v.category).sum + 13 ≤ R.locals ∧ cells ≤ R.cells ∧ slots ≤ R.slots) (k : X p l e R s m args below meth c D A nL cells slots Q ws (pc + 3) lv (.int (if y < x then y else x) :: rest)) : X p l e R s m args below meth c D A nL cells slots Q ws pc lv (.int y :: .int x :: rest) := fun H locs ls hP hD hS hl => by
  obtain ⟨hx, hb, hml, hown, hts, hK, hN, hA, hlk⟩ := C
  exact va_mmin hx hb (hml.trans hl.1.symm) hown (hts _ hlink) (hts _ hstat) (hts _ hini) (hts _ hcode) hR.1 hR.2.1 hR.2.2.1 hR.2.2.2 hdg (k H locs ls hP hD hS hl)
theorem x_mmaxN (C : Cx p s m args meth c cc nL own D cA A) {a b : Nat} {index : Nat} (hdg : decode cc pc = .ok (.invokestatic index, 3)) (hlink : Cond.methodLink own index Lib.Math.max.name ∈ gw) (hstat : Cond.static Lib.Math.max.name ∈ gw) (hini : Cond.initialized "java/lang/Math" ∈ gw) (hcode : Cond.code Lib.Math.max.name Lib.Math.max.code 2 (some .int) ∈ gw) (hR : 1 ≤ R.frames ∧ (rest.map fun v => v.category).sum + 13 ≤ R.locals ∧ cells ≤ R.cells ∧ slots ≤ R.slots) (ha : a < 2 ^ 31) (hb : b < 2 ^ 31) (k : X p l e R s m args below meth c D A nL cells slots Q ws (pc + 3) lv (.int (nI (max a b)) :: rest)) : X p l e R s m args below meth c D A nL cells slots Q ws pc lv (.int (nI b) :: .int (nI a) :: rest) := x_mmax C hdg hlink hstat hini hcode hR (x_top (by
    by_cases h : a < b
    · rw [if_pos ((nI_ltI ha hb).mpr h), Nat.max_eq_right (by omega)]
    · rw [if_neg (fun z => h ((nI_ltI ha hb).mp z)), Nat.max_eq_left (by omega)]) k)
theorem x_mminN (C : Cx p s m args meth c cc nL own D cA A) {a b : Nat} {index : Nat} (hdg : decode cc pc = .ok (.invokestatic index, 3)) (hlink : Cond.methodLink own index Lib.Math.min.name ∈ gw) (hstat : Cond.static Lib.Math.min.name ∈ gw) (hini : Cond.initialized "java/lang/Math" ∈ gw) (hcode : Cond.code Lib.Math.min.name Lib.Math.min.code 2 (some .int) ∈ gw) (hR : 1 ≤ R.frames ∧ (rest.map fun v => v.category).sum + 13 ≤ R.locals ∧ cells ≤ R.cells ∧ slots ≤ R.slots) (ha : a < 2 ^ 31) (hb : b < 2 ^ 31) (k : X p l e R s m args below meth c D A nL cells slots Q ws (pc + 3) lv (.int (nI (min a b)) :: rest)) : X p l e R s m args below meth c D A nL cells slots Q ws pc lv (.int (nI b) :: .int (nI a) :: rest) := x_mmin C hdg hlink hstat hini hcode hR (x_top (by
    by_cases h : b < a
    · rw [if_pos ((nI_ltI hb ha).mpr h), Nat.min_eq_right (by omega)]
    · rw [if_neg (fun z => h ((nI_ltI hb ha).mp z)), Nat.min_eq_left (by omega)]) k)
theorem x_copyi (C : Cx p s m args meth c cc nL own D cA A) {a a0 n0 n1 sp dp n : Nat} {f g : Nat → Int32} {index : Nat} (hdg : decode cc pc = .ok (.invokestatic index, 3)) (hlink : Cond.methodLink own index arraycopyName ∈ gw) (hnat : Cond.native arraycopyName ∈ gw) (hstat : Cond.static arraycopyName ∈ gw) (hini : Cond.initialized "java/lang/System" ∈ gw) (q0 q1 : Nat) (ha0 : ws[q0]? = some (a0, .inl (cA, n0, .inl f))) (ha1 : ws[q1]? = some (a, .inl (cA, n1, .inl g))) (h4 : sp + n ≤ n0) (h5 : dp + n ≤ n1) (hn0 : n0 < 2 ^ 31) (hn1 : n1 < 2 ^ 31) (hframes : 1 ≤ R.frames) (hlocals : (rest.map fun v => v.category).sum + (nativeFrameWords "java/lang/System" "arraycopy" 5 + 11) ≤ R.locals) {ws' : va_W} (hw : ws.set q1 (a, .inl (cA, n1, .inl (va_cpy f g sp dp n))) = ws') (k : X p l e R s m args below meth c D A nL cells slots Q ws' (pc + 3) lv rest) : X p l e R s m args below meth c D A nL cells slots Q ws pc lv (.int (nI n) :: .int (nI dp) :: .ref a :: .int (nI sp) :: .ref a0 :: rest) := fun H locs ls hP hD hS hl => by
  obtain ⟨hx, hb, hml, hown, hts, hK, hN, hA, hlk⟩ := C
  subst hw
  have c1 : (nI sp).toNatClampNeg = sp := nI_clamp (by omega)
  have c2 : (nI dp).toNatClampNeg = dp := nI_clamp (by omega)
  have c3 : (nI n).toNatClampNeg = n := nI_clamp (by omega)
  refine va_copyi (ty := .int) hx hb (hml.trans hl.1.symm) hown (hts _ hlink) (hts _ hnat) (hts _ hstat) (hts _ hini) hK hP hD hS q0 q1 0 0 ha0 ha1 rfl rfl rfl (nI_pos (by omega)) (nI_pos (by omega)) (nI_pos (by omega)) (by rw [c1, c3]; exact h4) (by rw [c2, c3]; exact h5) (fun _ _ => rfl) hframes hlocals hdg ?_
  rw [c1, c2, c3]
  exact fun H1 locs1 hP hD hS => k H1 locs1 ls hP hD hS hl

theorem x_iret (C : Cx p s m args meth c cc nL own D cA A) {S : Type} {post : Int32 → S → Prop} {w1 : S → va_W} (hr : meth.sig.returnType = some .int) {v : Int32} (hdg : decode cc pc = .ok (.ireturn, 1)) (u : S) (hw : w1 u = ws) (hp : post v u) : X p l e R s m args below meth c D A nL cells slots (MQ below (va_Qi post (Bw D A w1) A) args s cells slots A) ws pc lv [.int v] := fun H locs ls hP hD hS hl => by
  obtain ⟨hx, hb, hml, hown, hts, hK, hN, hA, hlk⟩ := C
  subst hw
  exact W.iret (v := v) hx hb hr (fun t ht hW => ⟨⟨v, u, rfl, hp, by rw [ht]; exact hP, hD⟩, hS.F ht⟩) hS.2.2 hdg
theorem x_zret (C : Cx p s m args meth c cc nL own D cA A) {S : Type} {post : Int32 → S → Prop} {w1 : S → va_W} (hr : meth.sig.returnType = some .boolean) {v : Int32} (hv : v = 0 ∨ v = 1) (hdg : decode cc pc = .ok (.ireturn, 1)) (u : S) (hw : w1 u = ws) (hp : post v u) : X p l e R s m args below meth c D A nL cells slots (MQ below (va_Qi post (Bw D A w1) A) args s cells slots A) ws pc lv [.int v] := fun H locs ls hP hD hS hl => by
  obtain ⟨hx, hb, hml, hown, hts, hK, hN, hA, hlk⟩ := C
  subst hw
  exact W.zret (v := v) (ty := .boolean) hx hb hr (by rcases hv with rfl | rfl <;> rfl) (fun t ht hW => ⟨⟨v, u, rfl, hp, by rw [ht]; exact hP, hD⟩, hS.F ht⟩) hS.2.2 hdg
theorem x_vret (C : Cx p s m args meth c cc nL own D cA A) {S : Type} {post : S → Prop} {w1 : S → va_W} (hr : meth.sig.returnType = none) (hdg : decode cc pc = .ok (.return_, 1)) (u : S) (hw : w1 u = ws) (hp : post u) : X p l e R s m args below meth c D A nL cells slots (MQ below (va_Qv post (Bw D A w1) A) args s cells slots A) ws pc lv [] := fun H locs ls hP hD hS hl => by
  obtain ⟨hx, hb, hml, hown, hts, hK, hN, hA, hlk⟩ := C
  subst hw
  exact W.vret hx hb hr (fun t ht hW => ⟨⟨u, rfl, hp, by rw [ht]; exact hP, hD⟩, hS.F ht⟩) hS.2.2 hdg
theorem x_widen {k n : Nat} (h1 : cells ≤ k) (h2 : slots ≤ n) (kk : X p l e R s m args below meth c D A nL k n Q ws pc lv rest) : X p l e R s m args below meth c D A nL cells slots Q ws pc lv rest := fun H locs ls hP hD hS hl => W.widen h1 h2 (kk H locs ls hP hD hS hl)

theorem x_callVI (C : Cx p s m args meth c cc nL own D cA A) {S : Type} {y : MethodName} {bytes : ByteArray} {maxL : Nat} {rt : Option FieldType} {rm : Room} {As : List Value} {wc wr : va_W} {post : Int32 → S → Prop} {w1 : S → va_W} {index n : Nat} {b : Nat} (hM : CtI l D cA y bytes maxL rt rm (.ref b :: As) wc post w1) (hdg : decode cc pc = .ok (.invokevirtual index, 3)) (hF : Cond.code y bytes maxL rt ∈ gw ∧ Cond.initialized y.cls ∈ gw ∧ Cond.instanceMethod y ∈ gw ∧ Cond.selects y.cls y y ∈ gw) (hlink : Cond.methodLink own index y ∈ gw) (hd : (y.cls ≠ "java/lang/invoke/MethodHandle" ∧ y.cls ≠ "java/lang/invoke/VarHandle") ∧ (parseMethodDescriptor y.desc).map (fun d => d.parameters.length) = some n) (hn : As.length = n) (hR : rm.frames + 1 ≤ R.frames ∧ 8 + (maxL + 11) + rm.locals ≤ R.locals) (hf : cells + rm.cells ≤ R.cells ∧ slots + rm.slots ≤ R.slots) (ci q0 : Nat) {T : u_T} {N : Nat} {fs : List Value} (hci : classes[ci]? = some (y.cls, T, N)) (hq : wc[q0]? = some (b, .inr (ci, fs))) (isC isR : List Nat) (hC : isC.map (fun i => ws[i]?) = wc.map some) (hRr : isR.map (fun i => ws[i]?) = wr.map some) (hndC : va_nd isC = true) (hnd : va_nd isR = true) (hdis : ∀ i ∈ isR, i ∉ isC) (hrest : (rest.map fun v => v.category).sum ≤ 8) (k : ∀ (r : Int32) (u : S), post r u → X p l e R s m args below meth c D A nL (cells + rm.cells) (slots + rm.slots) Q (wr ++ w1 u) (pc + 3) lv (.int r :: rest)) : X p l e R s m args below meth c D A nL cells slots Q ws pc lv (As.reverse ++ .ref b :: rest) := fun H locs ls hP hD hS hl => by
  obtain ⟨hx, hb, hml, hown, hts, hK, hN, hA, hlk⟩ := C
  have at' : ∀ (j : Nat) (q : Nat × va_E), wc[j]? = some q → ∃ i, isC[j]? = some i ∧ ws[i]? = some q := by
    intro j q hq
    have h1 : (isC.map (fun i => ws[i]?))[j]? = some (some q) := by rw [hC, List.getElem?_map, hq]; rfl
    rw [List.getElem?_map] at h1
    cases hi : isC[j]? with
    | none => rw [hi] at h1; cases h1
    | some i => rw [hi] at h1; exact ⟨i, rfl, Option.some.inj h1⟩
  have hPc : va_P D classes wc H := fun j q hq => by
    obtain ⟨i, -, h2⟩ := at' j q hq
    exact hP i q h2
  have hFc := va_free (wc := wc) hD hS hA isC hC
  have hlen : ∀ sig, parseMethodDescriptor y.desc = some sig → n = sig.parameters.length := fun sig h => by
    have h2 := hd.2
    rw [h] at h2
    exact (Option.some.inj h2).symm
  have hDc : va_D (fun _ => True) wc := ⟨fun i j x y hi hj hxy => by
    obtain ⟨i', h1, h2⟩ := at' i x hi
    obtain ⟨j', h3, h4⟩ := at' j y hj
    have h5 := hD.1 i' j' x y h2 h4 hxy
    subst h5
    exact va_nd_inj isC hndC i j i' h1 h3, fun _ _ _ => trivial⟩
  refine va_calli (va_runV (Ts := gw) (As := As) (rest := rest) ⟨hx, hb, hml, hown, hts⟩ (hM H.size) ⟨⟨rfl, rfl, hR.1, hR.2, pay_in hts (gw_in hF.1), List.mem_cons_self, hts _ hF.1, hts _ hF.2.1, hd.1, hlen, hts _ hlink⟩, hts _ hF.2.2.1, hts _ hF.2.2.2⟩ ⟨Pw.blind, va_recv hK hPc hci hq, fun U hU hW => ⟨rfl, by rw [hU], by rw [hU]; exact hPc, ⟨va_K.moved hW.alike hK, hN.warm hW⟩, hDc⟩⟩ rfl hn hl.1 rfl (lv_room hrest) hdg hf) hS (fun q _ h => hFc q h) hFc (fun r u t H1 locs1 ht hvm hw hB hz1 hk1 hS1 => ?_)
  obtain ⟨hP1, hD1⟩ := hB
  rw [ht] at hP1
  obtain ⟨hP2, hD2⟩ := va_join hP hD isC isR hC hRr hnd hdis hk1 hFc hP1 hD1
  exact k r u hw H1 locs1 ls hP2 hD2 hS1 hl
theorem x_callVV (C : Cx p s m args meth c cc nL own D cA A) {S : Type} {y : MethodName} {bytes : ByteArray} {maxL : Nat} {rm : Room} {As : List Value} {wc wr : va_W} {post : S → Prop} {w1 : S → va_W} {index n : Nat} {b : Nat} (hM : CtV l D cA y bytes maxL rm (.ref b :: As) wc post w1) (hdg : decode cc pc = .ok (.invokevirtual index, 3)) (hF : Cond.code y bytes maxL none ∈ gw ∧ Cond.initialized y.cls ∈ gw ∧ Cond.instanceMethod y ∈ gw ∧ Cond.selects y.cls y y ∈ gw) (hlink : Cond.methodLink own index y ∈ gw) (hd : (y.cls ≠ "java/lang/invoke/MethodHandle" ∧ y.cls ≠ "java/lang/invoke/VarHandle") ∧ (parseMethodDescriptor y.desc).map (fun d => d.parameters.length) = some n) (hn : As.length = n) (hR : rm.frames + 1 ≤ R.frames ∧ 8 + (maxL + 11) + rm.locals ≤ R.locals) (hf : cells + rm.cells ≤ R.cells ∧ slots + rm.slots ≤ R.slots) (ci q0 : Nat) {T : u_T} {N : Nat} {fs : List Value} (hci : classes[ci]? = some (y.cls, T, N)) (hq : wc[q0]? = some (b, .inr (ci, fs))) (isC isR : List Nat) (hC : isC.map (fun i => ws[i]?) = wc.map some) (hRr : isR.map (fun i => ws[i]?) = wr.map some) (hndC : va_nd isC = true) (hnd : va_nd isR = true) (hdis : ∀ i ∈ isR, i ∉ isC) (hrest : (rest.map fun v => v.category).sum ≤ 8) (k : ∀ u : S, post u → X p l e R s m args below meth c D A nL (cells + rm.cells) (slots + rm.slots) Q (wr ++ w1 u) (pc + 3) lv rest) : X p l e R s m args below meth c D A nL cells slots Q ws pc lv (As.reverse ++ .ref b :: rest) := fun H locs ls hP hD hS hl => by
  obtain ⟨hx, hb, hml, hown, hts, hK, hN, hA, hlk⟩ := C
  have at' : ∀ (j : Nat) (q : Nat × va_E), wc[j]? = some q → ∃ i, isC[j]? = some i ∧ ws[i]? = some q := by
    intro j q hq
    have h1 : (isC.map (fun i => ws[i]?))[j]? = some (some q) := by rw [hC, List.getElem?_map, hq]; rfl
    rw [List.getElem?_map] at h1
    cases hi : isC[j]? with
    | none => rw [hi] at h1; cases h1
    | some i => rw [hi] at h1; exact ⟨i, rfl, Option.some.inj h1⟩
  have hPc : va_P D classes wc H := fun j q hq => by
    obtain ⟨i, -, h2⟩ := at' j q hq
    exact hP i q h2
  have hFc := va_free (wc := wc) hD hS hA isC hC
  have hlen : ∀ sig, parseMethodDescriptor y.desc = some sig → n = sig.parameters.length := fun sig h => by
    have h2 := hd.2
    rw [h] at h2
    exact (Option.some.inj h2).symm
  have hDc : va_D (fun _ => True) wc := ⟨fun i j x y hi hj hxy => by
    obtain ⟨i', h1, h2⟩ := at' i x hi
    obtain ⟨j', h3, h4⟩ := at' j y hj
    have h5 := hD.1 i' j' x y h2 h4 hxy
    subst h5
    exact va_nd_inj isC hndC i j i' h1 h3, fun _ _ _ => trivial⟩
  refine va_callv (va_runV (Ts := gw) (As := As) (rest := rest) ⟨hx, hb, hml, hown, hts⟩ (hM H.size) ⟨⟨rfl, rfl, hR.1, hR.2, pay_in hts (gw_in hF.1), List.mem_cons_self, hts _ hF.1, hts _ hF.2.1, hd.1, hlen, hts _ hlink⟩, hts _ hF.2.2.1, hts _ hF.2.2.2⟩ ⟨Pw.blind, va_recv hK hPc hci hq, fun U hU hW => ⟨rfl, by rw [hU], by rw [hU]; exact hPc, ⟨va_K.moved hW.alike hK, hN.warm hW⟩, hDc⟩⟩ rfl hn hl.1 rfl (lv_room hrest) hdg hf) hS (fun q _ h => hFc q h) hFc (fun u t H1 locs1 ht hvm hw hB hz1 hk1 hS1 => ?_)
  obtain ⟨hP1, hD1⟩ := hB
  rw [ht] at hP1
  obtain ⟨hP2, hD2⟩ := va_join hP hD isC isR hC hRr hnd hdis hk1 hFc hP1 hD1
  exact k u hw H1 locs1 ls hP2 hD2 hS1 hl
theorem x_callSI (C : Cx p s m args meth c cc nL own D cA A) {S : Type} {y : MethodName} {bytes : ByteArray} {maxL : Nat} {rt : Option FieldType} {rm : Room} {As : List Value} {wc wr : va_W} {post : Int32 → S → Prop} {w1 : S → va_W} {index n : Nat} (hM : CtI l D cA y bytes maxL rt rm As wc post w1) (hdg : decode cc pc = .ok (.invokestatic index, 3)) (hF : Cond.code y bytes maxL rt ∈ gw ∧ Cond.initialized y.cls ∈ gw ∧ Cond.static y ∈ gw) (hlink : Cond.methodLink own index y ∈ gw) (hd : (y.cls ≠ "java/lang/invoke/MethodHandle" ∧ y.cls ≠ "java/lang/invoke/VarHandle") ∧ (parseMethodDescriptor y.desc).map (fun d => d.parameters.length) = some n) (hn : As.length = n) (hR : rm.frames + 1 ≤ R.frames ∧ 8 + (maxL + 11) + rm.locals ≤ R.locals) (hf : cells + rm.cells ≤ R.cells ∧ slots + rm.slots ≤ R.slots) (isC isR : List Nat) (hC : isC.map (fun i => ws[i]?) = wc.map some) (hRr : isR.map (fun i => ws[i]?) = wr.map some) (hndC : va_nd isC = true) (hnd : va_nd isR = true) (hdis : ∀ i ∈ isR, i ∉ isC) (hrest : (rest.map fun v => v.category).sum ≤ 8) (k : ∀ (r : Int32) (u : S), post r u → X p l e R s m args below meth c D A nL (cells + rm.cells) (slots + rm.slots) Q (wr ++ w1 u) (pc + 3) lv (.int r :: rest)) : X p l e R s m args below meth c D A nL cells slots Q ws pc lv (As.reverse ++ rest) := fun H locs ls hP hD hS hl => by
  obtain ⟨hx, hb, hml, hown, hts, hK, hN, hA, hlk⟩ := C
  have at' : ∀ (j : Nat) (q : Nat × va_E), wc[j]? = some q → ∃ i, isC[j]? = some i ∧ ws[i]? = some q := by
    intro j q hq
    have h1 : (isC.map (fun i => ws[i]?))[j]? = some (some q) := by rw [hC, List.getElem?_map, hq]; rfl
    rw [List.getElem?_map] at h1
    cases hi : isC[j]? with
    | none => rw [hi] at h1; cases h1
    | some i => rw [hi] at h1; exact ⟨i, rfl, Option.some.inj h1⟩
  have hPc : va_P D classes wc H := fun j q hq => by
    obtain ⟨i, -, h2⟩ := at' j q hq
    exact hP i q h2
  have hFc := va_free (wc := wc) hD hS hA isC hC
  have hlen : ∀ sig, parseMethodDescriptor y.desc = some sig → n = sig.parameters.length := fun sig h => by
    have h2 := hd.2
    rw [h] at h2
    exact (Option.some.inj h2).symm
  have hDc : va_D (fun _ => True) wc := ⟨fun i j x y hi hj hxy => by
    obtain ⟨i', h1, h2⟩ := at' i x hi
    obtain ⟨j', h3, h4⟩ := at' j y hj
    have h5 := hD.1 i' j' x y h2 h4 hxy
    subst h5
    exact va_nd_inj isC hndC i j i' h1 h3, fun _ _ _ => trivial⟩
  refine va_calli (va_runS (Ts := gw) (As := As) (rest := rest) ⟨hx, hb, hml, hown, hts⟩ (hM H.size) ⟨⟨rfl, rfl, hR.1, hR.2, pay_in hts (gw_in hF.1), List.mem_cons_self, hts _ hF.1, hts _ hF.2.1, hd.1, hlen, hts _ hlink⟩, hts _ hF.2.2⟩ ⟨Pw.blind, fun U hU hW => ⟨rfl, by rw [hU], by rw [hU]; exact hPc, ⟨va_K.moved hW.alike hK, hN.warm hW⟩, hDc⟩⟩ rfl hn hl.1 rfl (lv_room hrest) hdg hf) hS (fun q _ h => hFc q h) hFc (fun r u t H1 locs1 ht hvm hw hB hz1 hk1 hS1 => ?_)
  obtain ⟨hP1, hD1⟩ := hB
  rw [ht] at hP1
  obtain ⟨hP2, hD2⟩ := va_join hP hD isC isR hC hRr hnd hdis hk1 hFc hP1 hD1
  exact k r u hw H1 locs1 ls hP2 hD2 hS1 hl
theorem x_callSV (C : Cx p s m args meth c cc nL own D cA A) {S : Type} {y : MethodName} {bytes : ByteArray} {maxL : Nat} {rm : Room} {As : List Value} {wc wr : va_W} {post : S → Prop} {w1 : S → va_W} {index n : Nat} (hM : CtV l D cA y bytes maxL rm As wc post w1) (hdg : decode cc pc = .ok (.invokestatic index, 3)) (hF : Cond.code y bytes maxL none ∈ gw ∧ Cond.initialized y.cls ∈ gw ∧ Cond.static y ∈ gw) (hlink : Cond.methodLink own index y ∈ gw) (hd : (y.cls ≠ "java/lang/invoke/MethodHandle" ∧ y.cls ≠ "java/lang/invoke/VarHandle") ∧ (parseMethodDescriptor y.desc).map (fun d => d.parameters.length) = some n) (hn : As.length = n) (hR : rm.frames + 1 ≤ R.frames ∧ 8 + (maxL + 11) + rm.locals ≤ R.locals) (hf : cells + rm.cells ≤ R.cells ∧ slots + rm.slots ≤ R.slots) (isC isR : List Nat) (hC : isC.map (fun i => ws[i]?) = wc.map some) (hRr : isR.map (fun i => ws[i]?) = wr.map some) (hndC : va_nd isC = true) (hnd : va_nd isR = true) (hdis : ∀ i ∈ isR, i ∉ isC) (hrest : (rest.map fun v => v.category).sum ≤ 8) (k : ∀ u : S, post u → X p l e R s m args below meth c D A nL (cells + rm.cells) (slots + rm.slots) Q (wr ++ w1 u) (pc + 3) lv rest) : X p l e R s m args below meth c D A nL cells slots Q ws pc lv (As.reverse ++ rest) := fun H locs ls hP hD hS hl => by
  obtain ⟨hx, hb, hml, hown, hts, hK, hN, hA, hlk⟩ := C
  have at' : ∀ (j : Nat) (q : Nat × va_E), wc[j]? = some q → ∃ i, isC[j]? = some i ∧ ws[i]? = some q := by
    intro j q hq
    have h1 : (isC.map (fun i => ws[i]?))[j]? = some (some q) := by rw [hC, List.getElem?_map, hq]; rfl
    rw [List.getElem?_map] at h1
    cases hi : isC[j]? with
    | none => rw [hi] at h1; cases h1
    | some i => rw [hi] at h1; exact ⟨i, rfl, Option.some.inj h1⟩
  have hPc : va_P D classes wc H := fun j q hq => by
    obtain ⟨i, -, h2⟩ := at' j q hq
    exact hP i q h2
  have hFc := va_free (wc := wc) hD hS hA isC hC
  have hlen : ∀ sig, parseMethodDescriptor y.desc = some sig → n = sig.parameters.length := fun sig h => by
    have h2 := hd.2
    rw [h] at h2
    exact (Option.some.inj h2).symm
  have hDc : va_D (fun _ => True) wc := ⟨fun i j x y hi hj hxy => by
    obtain ⟨i', h1, h2⟩ := at' i x hi
    obtain ⟨j', h3, h4⟩ := at' j y hj
    have h5 := hD.1 i' j' x y h2 h4 hxy
    subst h5
    exact va_nd_inj isC hndC i j i' h1 h3, fun _ _ _ => trivial⟩
  refine va_callv (va_runS (Ts := gw) (As := As) (rest := rest) ⟨hx, hb, hml, hown, hts⟩ (hM H.size) ⟨⟨rfl, rfl, hR.1, hR.2, pay_in hts (gw_in hF.1), List.mem_cons_self, hts _ hF.1, hts _ hF.2.1, hd.1, hlen, hts _ hlink⟩, hts _ hF.2.2⟩ ⟨Pw.blind, fun U hU hW => ⟨rfl, by rw [hU], by rw [hU]; exact hPc, ⟨va_K.moved hW.alike hK, hN.warm hW⟩, hDc⟩⟩ rfl hn hl.1 rfl (lv_room hrest) hdg hf) hS (fun q _ h => hFc q h) hFc (fun u t H1 locs1 ht hvm hw hB hz1 hk1 hS1 => ?_)
  obtain ⟨hP1, hD1⟩ := hB
  rw [ht] at hP1
  obtain ⟨hP2, hD2⟩ := va_join hP hD isC isR hC hRr hnd hdis hk1 hFc hP1 hD1
  exact k u hw H1 locs1 ls hP2 hD2 hS1 hl
theorem x_callIV (C : Cx p s m args meth c cc nL own D cA A) {S : Type} {y : MethodName} {bytes : ByteArray} {maxL : Nat} {rm : Room} {As : List Value} {wc wr : va_W} {post : S → Prop} {w1 : S → va_W} {index n : Nat} {b : Nat} (hM : CtV l D cA y bytes maxL rm (.ref b :: As) wc post w1) (hdg : decode cc pc = .ok (.invokespecial index, 3)) (hF : Cond.code y bytes maxL none ∈ gw ∧ Cond.initialized y.cls ∈ gw ∧ Cond.instanceMethod y ∈ gw ∧ y.name = "<init>") (hlink : Cond.methodLink own index y ∈ gw) (hd : (y.cls ≠ "java/lang/invoke/MethodHandle" ∧ y.cls ≠ "java/lang/invoke/VarHandle") ∧ (parseMethodDescriptor y.desc).map (fun d => d.parameters.length) = some n) (hn : As.length = n) (hR : rm.frames + 1 ≤ R.frames ∧ 8 + (maxL + 11) + rm.locals ≤ R.locals) (hf : cells + rm.cells ≤ R.cells ∧ slots + rm.slots ≤ R.slots) (isC isR : List Nat) (hC : isC.map (fun i => ws[i]?) = wc.map some) (hRr : isR.map (fun i => ws[i]?) = wr.map some) (hndC : va_nd isC = true) (hnd : va_nd isR = true) (hdis : ∀ i ∈ isR, i ∉ isC) (hrest : (rest.map fun v => v.category).sum ≤ 8) (k : ∀ u : S, post u → X p l e R s m args below meth c D A nL (cells + rm.cells) (slots + rm.slots) Q (wr ++ w1 u) (pc + 3) lv rest) : X p l e R s m args below meth c D A nL cells slots Q ws pc lv (As.reverse ++ .ref b :: rest) := fun H locs ls hP hD hS hl => by
  obtain ⟨hx, hb, hml, hown, hts, hK, hN, hA, hlk⟩ := C
  have at' : ∀ (j : Nat) (q : Nat × va_E), wc[j]? = some q → ∃ i, isC[j]? = some i ∧ ws[i]? = some q := by
    intro j q hq
    have h1 : (isC.map (fun i => ws[i]?))[j]? = some (some q) := by rw [hC, List.getElem?_map, hq]; rfl
    rw [List.getElem?_map] at h1
    cases hi : isC[j]? with
    | none => rw [hi] at h1; cases h1
    | some i => rw [hi] at h1; exact ⟨i, rfl, Option.some.inj h1⟩
  have hPc : va_P D classes wc H := fun j q hq => by
    obtain ⟨i, -, h2⟩ := at' j q hq
    exact hP i q h2
  have hFc := va_free (wc := wc) hD hS hA isC hC
  have hlen : ∀ sig, parseMethodDescriptor y.desc = some sig → n = sig.parameters.length := fun sig h => by
    have h2 := hd.2
    rw [h] at h2
    exact (Option.some.inj h2).symm
  have hDc : va_D (fun _ => True) wc := ⟨fun i j x y hi hj hxy => by
    obtain ⟨i', h1, h2⟩ := at' i x hi
    obtain ⟨j', h3, h4⟩ := at' j y hj
    have h5 := hD.1 i' j' x y h2 h4 hxy
    subst h5
    exact va_nd_inj isC hndC i j i' h1 h3, fun _ _ _ => trivial⟩
  refine va_callv (va_runI (Ts := gw) (As := As) (rest := rest) ⟨hx, hb, hml, hown, hts⟩ (hM H.size) ⟨⟨rfl, rfl, hR.1, hR.2, pay_in hts (gw_in hF.1), List.mem_cons_self, hts _ hF.1, hts _ hF.2.1, hd.1, hlen, hts _ hlink⟩, hF.2.2.2, hts _ hF.2.2.1⟩ ⟨Pw.blind, fun U hU hW => ⟨rfl, by rw [hU], by rw [hU]; exact hPc, ⟨va_K.moved hW.alike hK, hN.warm hW⟩, hDc⟩⟩ rfl hn hl.1 rfl (lv_room hrest) hdg hf) hS (fun q _ h => hFc q h) hFc (fun u t H1 locs1 ht hvm hw hB hz1 hk1 hS1 => ?_)
  obtain ⟨hP1, hD1⟩ := hB
  rw [ht] at hP1
  obtain ⟨hP2, hD2⟩ := va_join hP hD isC isR hC hRr hnd hdis hk1 hFc hP1 hD1
  exact k u hw H1 locs1 ls hP2 hD2 hS1 hl
theorem x_callVIN (C : Cx p s m args meth c cc nL own D cA A) {S : Type} {y : MethodName} {bytes : ByteArray} {maxL : Nat} {rt : Option FieldType} {rm : Room} {As : List Value} {wc wr : va_W} {post : Int32 → S → Prop} {w1 : S → va_W} {index n : Nat} {host : String} {b : Nat} (hM : CtI l D cA y bytes maxL rt rm (.ref b :: As) wc post w1) (hdg : decode cc pc = .ok (.invokevirtual index, 3)) (hF : Cond.code y bytes maxL rt ∈ gw ∧ Cond.initialized y.cls ∈ gw ∧ Cond.instanceMethod y ∈ gw ∧ Cond.selects y.cls y y ∈ gw) (hlink : Cond.methodLinkNest own index y host ∈ nw) (hd : (y.cls ≠ "java/lang/invoke/MethodHandle" ∧ y.cls ≠ "java/lang/invoke/VarHandle") ∧ (parseMethodDescriptor y.desc).map (fun d => d.parameters.length) = some n) (hn : As.length = n) (hR : rm.frames + 1 ≤ R.frames ∧ 8 + (maxL + 11) + rm.locals ≤ R.locals) (hf : cells + rm.cells ≤ R.cells ∧ slots + rm.slots ≤ R.slots) (ci q0 : Nat) {T : u_T} {N : Nat} {fs : List Value} (hci : classes[ci]? = some (y.cls, T, N)) (hq : wc[q0]? = some (b, .inr (ci, fs))) (isC isR : List Nat) (hC : isC.map (fun i => ws[i]?) = wc.map some) (hRr : isR.map (fun i => ws[i]?) = wr.map some) (hndC : va_nd isC = true) (hnd : va_nd isR = true) (hdis : ∀ i ∈ isR, i ∉ isC) (hrest : (rest.map fun v => v.category).sum ≤ 8) (k : ∀ (r : Int32) (u : S), post r u → X p l e R s m args below meth c D A nL (cells + rm.cells) (slots + rm.slots) Q (wr ++ w1 u) (pc + 3) lv (.int r :: rest)) : X p l e R s m args below meth c D A nL cells slots Q ws pc lv (As.reverse ++ .ref b :: rest) := fun H locs ls hP hD hS hl => by
  obtain ⟨hx, hb, hml, hown, hts, hK, hN, hA, hlk⟩ := C
  have at' : ∀ (j : Nat) (q : Nat × va_E), wc[j]? = some q → ∃ i, isC[j]? = some i ∧ ws[i]? = some q := by
    intro j q hq
    have h1 : (isC.map (fun i => ws[i]?))[j]? = some (some q) := by rw [hC, List.getElem?_map, hq]; rfl
    rw [List.getElem?_map] at h1
    cases hi : isC[j]? with
    | none => rw [hi] at h1; cases h1
    | some i => rw [hi] at h1; exact ⟨i, rfl, Option.some.inj h1⟩
  have hPc : va_P D classes wc H := fun j q hq => by
    obtain ⟨i, -, h2⟩ := at' j q hq
    exact hP i q h2
  have hFc := va_free (wc := wc) hD hS hA isC hC
  have hlen : ∀ sig, parseMethodDescriptor y.desc = some sig → n = sig.parameters.length := fun sig h => by
    have h2 := hd.2
    rw [h] at h2
    exact (Option.some.inj h2).symm
  have hDc : va_D (fun _ => True) wc := ⟨fun i j x y hi hj hxy => by
    obtain ⟨i', h1, h2⟩ := at' i x hi
    obtain ⟨j', h3, h4⟩ := at' j y hj
    have h5 := hD.1 i' j' x y h2 h4 hxy
    subst h5
    exact va_nd_inj isC hndC i j i' h1 h3, fun _ _ _ => trivial⟩
  refine va_calli (va_runVN (Ts := gw) (As := As) (rest := rest) ⟨hx, hb, hml, hown, hts⟩ (hM H.size) ⟨⟨⟨rfl, rfl, hR.1, hR.2, pay_in hts (gw_in hF.1), List.mem_cons_self⟩, hts _ hF.1, hts _ hF.2.1, hd.1, hlen, va_Nw.use rfl (hN _ hlink)⟩, hts _ hF.2.2.1, hts _ hF.2.2.2⟩ ⟨Pw.blind, va_recv hK hPc hci hq, fun U hU hW => ⟨rfl, by rw [hU], by rw [hU]; exact hPc, ⟨va_K.moved hW.alike hK, hN.warm hW⟩, hDc⟩⟩ rfl hn hl.1 rfl (lv_room hrest) hdg hf) hS (fun q _ h => hFc q h) hFc (fun r u t H1 locs1 ht hvm hw hB hz1 hk1 hS1 => ?_)
  obtain ⟨hP1, hD1⟩ := hB
  rw [ht] at hP1
  obtain ⟨hP2, hD2⟩ := va_join hP hD isC isR hC hRr hnd hdis hk1 hFc hP1 hD1
  exact k r u hw H1 locs1 ls hP2 hD2 hS1 hl
theorem x_callVVN (C : Cx p s m args meth c cc nL own D cA A) {S : Type} {y : MethodName} {bytes : ByteArray} {maxL : Nat} {rm : Room} {As : List Value} {wc wr : va_W} {post : S → Prop} {w1 : S → va_W} {index n : Nat} {host : String} {b : Nat} (hM : CtV l D cA y bytes maxL rm (.ref b :: As) wc post w1) (hdg : decode cc pc = .ok (.invokevirtual index, 3)) (hF : Cond.code y bytes maxL none ∈ gw ∧ Cond.initialized y.cls ∈ gw ∧ Cond.instanceMethod y ∈ gw ∧ Cond.selects y.cls y y ∈ gw) (hlink : Cond.methodLinkNest own index y host ∈ nw) (hd : (y.cls ≠ "java/lang/invoke/MethodHandle" ∧ y.cls ≠ "java/lang/invoke/VarHandle") ∧ (parseMethodDescriptor y.desc).map (fun d => d.parameters.length) = some n) (hn : As.length = n) (hR : rm.frames + 1 ≤ R.frames ∧ 8 + (maxL + 11) + rm.locals ≤ R.locals) (hf : cells + rm.cells ≤ R.cells ∧ slots + rm.slots ≤ R.slots) (ci q0 : Nat) {T : u_T} {N : Nat} {fs : List Value} (hci : classes[ci]? = some (y.cls, T, N)) (hq : wc[q0]? = some (b, .inr (ci, fs))) (isC isR : List Nat) (hC : isC.map (fun i => ws[i]?) = wc.map some) (hRr : isR.map (fun i => ws[i]?) = wr.map some) (hndC : va_nd isC = true) (hnd : va_nd isR = true) (hdis : ∀ i ∈ isR, i ∉ isC) (hrest : (rest.map fun v => v.category).sum ≤ 8) (k : ∀ u : S, post u → X p l e R s m args below meth c D A nL (cells + rm.cells) (slots + rm.slots) Q (wr ++ w1 u) (pc + 3) lv rest) : X p l e R s m args below meth c D A nL cells slots Q ws pc lv (As.reverse ++ .ref b :: rest) := fun H locs ls hP hD hS hl => by
  obtain ⟨hx, hb, hml, hown, hts, hK, hN, hA, hlk⟩ := C
  have at' : ∀ (j : Nat) (q : Nat × va_E), wc[j]? = some q → ∃ i, isC[j]? = some i ∧ ws[i]? = some q := by
    intro j q hq
    have h1 : (isC.map (fun i => ws[i]?))[j]? = some (some q) := by rw [hC, List.getElem?_map, hq]; rfl
    rw [List.getElem?_map] at h1
    cases hi : isC[j]? with
    | none => rw [hi] at h1; cases h1
    | some i => rw [hi] at h1; exact ⟨i, rfl, Option.some.inj h1⟩
  have hPc : va_P D classes wc H := fun j q hq => by
    obtain ⟨i, -, h2⟩ := at' j q hq
    exact hP i q h2
  have hFc := va_free (wc := wc) hD hS hA isC hC
  have hlen : ∀ sig, parseMethodDescriptor y.desc = some sig → n = sig.parameters.length := fun sig h => by
    have h2 := hd.2
    rw [h] at h2
    exact (Option.some.inj h2).symm
  have hDc : va_D (fun _ => True) wc := ⟨fun i j x y hi hj hxy => by
    obtain ⟨i', h1, h2⟩ := at' i x hi
    obtain ⟨j', h3, h4⟩ := at' j y hj
    have h5 := hD.1 i' j' x y h2 h4 hxy
    subst h5
    exact va_nd_inj isC hndC i j i' h1 h3, fun _ _ _ => trivial⟩
  refine va_callv (va_runVN (Ts := gw) (As := As) (rest := rest) ⟨hx, hb, hml, hown, hts⟩ (hM H.size) ⟨⟨⟨rfl, rfl, hR.1, hR.2, pay_in hts (gw_in hF.1), List.mem_cons_self⟩, hts _ hF.1, hts _ hF.2.1, hd.1, hlen, va_Nw.use rfl (hN _ hlink)⟩, hts _ hF.2.2.1, hts _ hF.2.2.2⟩ ⟨Pw.blind, va_recv hK hPc hci hq, fun U hU hW => ⟨rfl, by rw [hU], by rw [hU]; exact hPc, ⟨va_K.moved hW.alike hK, hN.warm hW⟩, hDc⟩⟩ rfl hn hl.1 rfl (lv_room hrest) hdg hf) hS (fun q _ h => hFc q h) hFc (fun u t H1 locs1 ht hvm hw hB hz1 hk1 hS1 => ?_)
  obtain ⟨hP1, hD1⟩ := hB
  rw [ht] at hP1
  obtain ⟨hP2, hD2⟩ := va_join hP hD isC isR hC hRr hnd hdis hk1 hFc hP1 hD1
  exact k u hw H1 locs1 ls hP2 hD2 hS1 hl
theorem x_callSIN (C : Cx p s m args meth c cc nL own D cA A) {S : Type} {y : MethodName} {bytes : ByteArray} {maxL : Nat} {rt : Option FieldType} {rm : Room} {As : List Value} {wc wr : va_W} {post : Int32 → S → Prop} {w1 : S → va_W} {index n : Nat} {host : String} (hM : CtI l D cA y bytes maxL rt rm As wc post w1) (hdg : decode cc pc = .ok (.invokestatic index, 3)) (hF : Cond.code y bytes maxL rt ∈ gw ∧ Cond.initialized y.cls ∈ gw ∧ Cond.static y ∈ gw) (hlink : Cond.methodLinkNest own index y host ∈ nw) (hd : (y.cls ≠ "java/lang/invoke/MethodHandle" ∧ y.cls ≠ "java/lang/invoke/VarHandle") ∧ (parseMethodDescriptor y.desc).map (fun d => d.parameters.length) = some n) (hn : As.length = n) (hR : rm.frames + 1 ≤ R.frames ∧ 8 + (maxL + 11) + rm.locals ≤ R.locals) (hf : cells + rm.cells ≤ R.cells ∧ slots + rm.slots ≤ R.slots) (isC isR : List Nat) (hC : isC.map (fun i => ws[i]?) = wc.map some) (hRr : isR.map (fun i => ws[i]?) = wr.map some) (hndC : va_nd isC = true) (hnd : va_nd isR = true) (hdis : ∀ i ∈ isR, i ∉ isC) (hrest : (rest.map fun v => v.category).sum ≤ 8) (k : ∀ (r : Int32) (u : S), post r u → X p l e R s m args below meth c D A nL (cells + rm.cells) (slots + rm.slots) Q (wr ++ w1 u) (pc + 3) lv (.int r :: rest)) : X p l e R s m args below meth c D A nL cells slots Q ws pc lv (As.reverse ++ rest) := fun H locs ls hP hD hS hl => by
  obtain ⟨hx, hb, hml, hown, hts, hK, hN, hA, hlk⟩ := C
  have at' : ∀ (j : Nat) (q : Nat × va_E), wc[j]? = some q → ∃ i, isC[j]? = some i ∧ ws[i]? = some q := by
    intro j q hq
    have h1 : (isC.map (fun i => ws[i]?))[j]? = some (some q) := by rw [hC, List.getElem?_map, hq]; rfl
    rw [List.getElem?_map] at h1
    cases hi : isC[j]? with
    | none => rw [hi] at h1; cases h1
    | some i => rw [hi] at h1; exact ⟨i, rfl, Option.some.inj h1⟩
  have hPc : va_P D classes wc H := fun j q hq => by
    obtain ⟨i, -, h2⟩ := at' j q hq
    exact hP i q h2
  have hFc := va_free (wc := wc) hD hS hA isC hC
  have hlen : ∀ sig, parseMethodDescriptor y.desc = some sig → n = sig.parameters.length := fun sig h => by
    have h2 := hd.2
    rw [h] at h2
    exact (Option.some.inj h2).symm
  have hDc : va_D (fun _ => True) wc := ⟨fun i j x y hi hj hxy => by
    obtain ⟨i', h1, h2⟩ := at' i x hi
    obtain ⟨j', h3, h4⟩ := at' j y hj
    have h5 := hD.1 i' j' x y h2 h4 hxy
    subst h5
    exact va_nd_inj isC hndC i j i' h1 h3, fun _ _ _ => trivial⟩
  refine va_calli (va_runSN (Ts := gw) (As := As) (rest := rest) ⟨hx, hb, hml, hown, hts⟩ (hM H.size) ⟨⟨⟨rfl, rfl, hR.1, hR.2, pay_in hts (gw_in hF.1), List.mem_cons_self⟩, hts _ hF.1, hts _ hF.2.1, hd.1, hlen, va_Nw.use rfl (hN _ hlink)⟩, hts _ hF.2.2, trivial⟩ ⟨Pw.blind, fun U hU hW => ⟨rfl, by rw [hU], by rw [hU]; exact hPc, ⟨va_K.moved hW.alike hK, hN.warm hW⟩, hDc⟩⟩ rfl hn hl.1 rfl (lv_room hrest) hdg hf) hS (fun q _ h => hFc q h) hFc (fun r u t H1 locs1 ht hvm hw hB hz1 hk1 hS1 => ?_)
  obtain ⟨hP1, hD1⟩ := hB
  rw [ht] at hP1
  obtain ⟨hP2, hD2⟩ := va_join hP hD isC isR hC hRr hnd hdis hk1 hFc hP1 hD1
  exact k r u hw H1 locs1 ls hP2 hD2 hS1 hl
theorem x_callSVN (C : Cx p s m args meth c cc nL own D cA A) {S : Type} {y : MethodName} {bytes : ByteArray} {maxL : Nat} {rm : Room} {As : List Value} {wc wr : va_W} {post : S → Prop} {w1 : S → va_W} {index n : Nat} {host : String} (hM : CtV l D cA y bytes maxL rm As wc post w1) (hdg : decode cc pc = .ok (.invokestatic index, 3)) (hF : Cond.code y bytes maxL none ∈ gw ∧ Cond.initialized y.cls ∈ gw ∧ Cond.static y ∈ gw) (hlink : Cond.methodLinkNest own index y host ∈ nw) (hd : (y.cls ≠ "java/lang/invoke/MethodHandle" ∧ y.cls ≠ "java/lang/invoke/VarHandle") ∧ (parseMethodDescriptor y.desc).map (fun d => d.parameters.length) = some n) (hn : As.length = n) (hR : rm.frames + 1 ≤ R.frames ∧ 8 + (maxL + 11) + rm.locals ≤ R.locals) (hf : cells + rm.cells ≤ R.cells ∧ slots + rm.slots ≤ R.slots) (isC isR : List Nat) (hC : isC.map (fun i => ws[i]?) = wc.map some) (hRr : isR.map (fun i => ws[i]?) = wr.map some) (hndC : va_nd isC = true) (hnd : va_nd isR = true) (hdis : ∀ i ∈ isR, i ∉ isC) (hrest : (rest.map fun v => v.category).sum ≤ 8) (k : ∀ u : S, post u → X p l e R s m args below meth c D A nL (cells + rm.cells) (slots + rm.slots) Q (wr ++ w1 u) (pc + 3) lv rest) : X p l e R s m args below meth c D A nL cells slots Q ws pc lv (As.reverse ++ rest) := fun H locs ls hP hD hS hl => by
  obtain ⟨hx, hb, hml, hown, hts, hK, hN, hA, hlk⟩ := C
  have at' : ∀ (j : Nat) (q : Nat × va_E), wc[j]? = some q → ∃ i, isC[j]? = some i ∧ ws[i]? = some q := by
    intro j q hq
    have h1 : (isC.map (fun i => ws[i]?))[j]? = some (some q) := by rw [hC, List.getElem?_map, hq]; rfl
    rw [List.getElem?_map] at h1
    cases hi : isC[j]? with
    | none => rw [hi] at h1; cases h1
    | some i => rw [hi] at h1; exact ⟨i, rfl, Option.some.inj h1⟩
  have hPc : va_P D classes wc H := fun j q hq => by
    obtain ⟨i, -, h2⟩ := at' j q hq
    exact hP i q h2
  have hFc := va_free (wc := wc) hD hS hA isC hC
  have hlen : ∀ sig, parseMethodDescriptor y.desc = some sig → n = sig.parameters.length := fun sig h => by
    have h2 := hd.2
    rw [h] at h2
    exact (Option.some.inj h2).symm
  have hDc : va_D (fun _ => True) wc := ⟨fun i j x y hi hj hxy => by
    obtain ⟨i', h1, h2⟩ := at' i x hi
    obtain ⟨j', h3, h4⟩ := at' j y hj
    have h5 := hD.1 i' j' x y h2 h4 hxy
    subst h5
    exact va_nd_inj isC hndC i j i' h1 h3, fun _ _ _ => trivial⟩
  refine va_callv (va_runSN (Ts := gw) (As := As) (rest := rest) ⟨hx, hb, hml, hown, hts⟩ (hM H.size) ⟨⟨⟨rfl, rfl, hR.1, hR.2, pay_in hts (gw_in hF.1), List.mem_cons_self⟩, hts _ hF.1, hts _ hF.2.1, hd.1, hlen, va_Nw.use rfl (hN _ hlink)⟩, hts _ hF.2.2, trivial⟩ ⟨Pw.blind, fun U hU hW => ⟨rfl, by rw [hU], by rw [hU]; exact hPc, ⟨va_K.moved hW.alike hK, hN.warm hW⟩, hDc⟩⟩ rfl hn hl.1 rfl (lv_room hrest) hdg hf) hS (fun q _ h => hFc q h) hFc (fun u t H1 locs1 ht hvm hw hB hz1 hk1 hS1 => ?_)
  obtain ⟨hP1, hD1⟩ := hB
  rw [ht] at hP1
  obtain ⟨hP2, hD2⟩ := va_join hP hD isC isR hC hRr hnd hdis hk1 hFc hP1 hD1
  exact k u hw H1 locs1 ls hP2 hD2 hS1 hl
theorem x_callIVN (C : Cx p s m args meth c cc nL own D cA A) {S : Type} {y : MethodName} {bytes : ByteArray} {maxL : Nat} {rm : Room} {As : List Value} {wc wr : va_W} {post : S → Prop} {w1 : S → va_W} {index n : Nat} {host : String} {b : Nat} (hM : CtV l D cA y bytes maxL rm (.ref b :: As) wc post w1) (hdg : decode cc pc = .ok (.invokespecial index, 3)) (hF : Cond.code y bytes maxL none ∈ gw ∧ Cond.initialized y.cls ∈ gw ∧ Cond.instanceMethod y ∈ gw ∧ y.name = "<init>") (hlink : Cond.methodLinkNest own index y host ∈ nw) (hd : (y.cls ≠ "java/lang/invoke/MethodHandle" ∧ y.cls ≠ "java/lang/invoke/VarHandle") ∧ (parseMethodDescriptor y.desc).map (fun d => d.parameters.length) = some n) (hn : As.length = n) (hR : rm.frames + 1 ≤ R.frames ∧ 8 + (maxL + 11) + rm.locals ≤ R.locals) (hf : cells + rm.cells ≤ R.cells ∧ slots + rm.slots ≤ R.slots) (isC isR : List Nat) (hC : isC.map (fun i => ws[i]?) = wc.map some) (hRr : isR.map (fun i => ws[i]?) = wr.map some) (hndC : va_nd isC = true) (hnd : va_nd isR = true) (hdis : ∀ i ∈ isR, i ∉ isC) (hrest : (rest.map fun v => v.category).sum ≤ 8) (k : ∀ u : S, post u → X p l e R s m args below meth c D A nL (cells + rm.cells) (slots + rm.slots) Q (wr ++ w1 u) (pc + 3) lv rest) : X p l e R s m args below meth c D A nL cells slots Q ws pc lv (As.reverse ++ .ref b :: rest) := fun H locs ls hP hD hS hl => by
  obtain ⟨hx, hb, hml, hown, hts, hK, hN, hA, hlk⟩ := C
  have at' : ∀ (j : Nat) (q : Nat × va_E), wc[j]? = some q → ∃ i, isC[j]? = some i ∧ ws[i]? = some q := by
    intro j q hq
    have h1 : (isC.map (fun i => ws[i]?))[j]? = some (some q) := by rw [hC, List.getElem?_map, hq]; rfl
    rw [List.getElem?_map] at h1
    cases hi : isC[j]? with
    | none => rw [hi] at h1; cases h1
    | some i => rw [hi] at h1; exact ⟨i, rfl, Option.some.inj h1⟩
  have hPc : va_P D classes wc H := fun j q hq => by
    obtain ⟨i, -, h2⟩ := at' j q hq
    exact hP i q h2
  have hFc := va_free (wc := wc) hD hS hA isC hC
  have hlen : ∀ sig, parseMethodDescriptor y.desc = some sig → n = sig.parameters.length := fun sig h => by
    have h2 := hd.2
    rw [h] at h2
    exact (Option.some.inj h2).symm
  have hDc : va_D (fun _ => True) wc := ⟨fun i j x y hi hj hxy => by
    obtain ⟨i', h1, h2⟩ := at' i x hi
    obtain ⟨j', h3, h4⟩ := at' j y hj
    have h5 := hD.1 i' j' x y h2 h4 hxy
    subst h5
    exact va_nd_inj isC hndC i j i' h1 h3, fun _ _ _ => trivial⟩
  refine va_callv (va_runIN (Ts := gw) (As := As) (rest := rest) ⟨hx, hb, hml, hown, hts⟩ (hM H.size) ⟨⟨⟨rfl, rfl, hR.1, hR.2, pay_in hts (gw_in hF.1), List.mem_cons_self⟩, hts _ hF.1, hts _ hF.2.1, hd.1, hlen, va_Nw.use rfl (hN _ hlink)⟩, hF.2.2.2, hts _ hF.2.2.1⟩ ⟨Pw.blind, fun U hU hW => ⟨rfl, by rw [hU], by rw [hU]; exact hPc, ⟨va_K.moved hW.alike hK, hN.warm hW⟩, hDc⟩⟩ rfl hn hl.1 rfl (lv_room hrest) hdg hf) hS (fun q _ h => hFc q h) hFc (fun u t H1 locs1 ht hvm hw hB hz1 hk1 hS1 => ?_)
  obtain ⟨hP1, hD1⟩ := hB
  rw [ht] at hP1
  obtain ⟨hP2, hD2⟩ := va_join hP hD isC isR hC hRr hnd hdis hk1 hFc hP1 hD1
  exact k u hw H1 locs1 ls hP2 hD2 hS1 hl
theorem CtI.start {y : MethodName} {bytes : ByteArray} {maxL : Nat} {rt : Option FieldType} {rm : Room} {As : List Value} {wc : va_W} {S : Type} {post : Int32 → S → Prop} {w1 : S → va_W} {lv0 : List (Nat × Value)} (hy : plainName y.cls = true) (hlv : lv_args 0 As = lv0) (hsl : (lg_sl As).length ≤ maxL)
    (body : ∀ (p : Program) (e : Env) (s : State) (m : MethodId) (args : Array Value) (below : List Frame) (meth : Method) (c : Code) (A : Nat → Prop), Cx p s m args meth c bytes maxL y.cls D cA A → meth.sig.returnType = rt → meth.name = y.name → X p l e rm s m args below meth c D A maxL 0 0 (MQ below (va_Qi post (Bw D A w1) A) args s rm.cells rm.slots A) wc 0 lv0 []) : CtI l D cA y bytes maxL rt rm As wc post w1 := by
  intro sz
  refine Met.ofW (cc := bytes) (maxL := maxL) (ret := rt) hy rfl ?_
  intro p e s m args below meth c s₁ B hml hv
  obtain ⟨rfl, hsz, hP, ⟨hK, hN⟩, hD0⟩ := hv
  have hts := atoms_spec (ws := .code y bytes maxL rt :: gw) B.pre
  subst hsz
  have hD := hD0.self (sz := s.heap.size)
  generalize hAe : va_A wc s.heap.size = A at hD ⊢
  have hA : ∀ q : Nat, s.heap.size ≤ q → A q := fun q h => by rw [← hAe]; exact Or.inr h
  have hS : va_S A s.heap s.heap [] := va_S.rf
  have hl := lv_entry As (n := maxL) hsl
  rw [lg_entry_eq]
  rw [hlv] at hl
  exact body p e s m _ below meth c A ⟨B.exec, B.bytes, hml, findClass_of_methodNamed B.named, fun w h => hts w (List.mem_cons_of_mem _ h), hK, hN, hA, B.notSynchronized⟩ B.returns (name_of_methodNamed B.named B.method).1 s.heap [] _ hP hD hS hl
theorem CtV.start {y : MethodName} {bytes : ByteArray} {maxL : Nat} {rm : Room} {As : List Value} {wc : va_W} {S : Type} {post : S → Prop} {w1 : S → va_W} {lv0 : List (Nat × Value)} (hy : plainName y.cls = true) (hlv : lv_args 0 As = lv0) (hsl : (lg_sl As).length ≤ maxL)
    (body : ∀ (p : Program) (e : Env) (s : State) (m : MethodId) (args : Array Value) (below : List Frame) (meth : Method) (c : Code) (A : Nat → Prop), Cx p s m args meth c bytes maxL y.cls D cA A → meth.sig.returnType = none → meth.name = y.name → X p l e rm s m args below meth c D A maxL 0 0 (MQ below (va_Qv post (Bw D A w1) A) args s rm.cells rm.slots A) wc 0 lv0 []) : CtV l D cA y bytes maxL rm As wc post w1 := by
  intro sz
  refine Met.ofW (cc := bytes) (maxL := maxL) (ret := none) hy rfl ?_
  intro p e s m args below meth c s₁ B hml hv
  obtain ⟨rfl, hsz, hP, ⟨hK, hN⟩, hD0⟩ := hv
  have hts := atoms_spec (ws := .code y bytes maxL none :: gw) B.pre
  subst hsz
  have hD := hD0.self (sz := s.heap.size)
  generalize hAe : va_A wc s.heap.size = A at hD ⊢
  have hA : ∀ q : Nat, s.heap.size ≤ q → A q := fun q h => by rw [← hAe]; exact Or.inr h
  have hS : va_S A s.heap s.heap [] := va_S.rf
  have hl := lv_entry As (n := maxL) hsl
  rw [lg_entry_eq]
  rw [hlv] at hl
  exact body p e s m _ below meth c A ⟨B.exec, B.bytes, hml, findClass_of_methodNamed B.named, fun w h => hts w (List.mem_cons_of_mem _ h), hK, hN, hA, B.notSynchronized⟩ B.returns (name_of_methodNamed B.named B.method).1 s.heap [] _ hP hD hS hl

end MK
end
section
/-! what the tables say -/
set_option maxRecDepth 100000 in
theorem i_S : ∀ w ∈ u_ws R_S F_S 3, w ∈ gw := by decide +kernel
set_option maxRecDepth 100000 in
theorem i_B : ∀ w ∈ u_ws R_B F_B 5, w ∈ gw := by decide +kernel
set_option maxRecDepth 100000 in
theorem i_M : ∀ w ∈ u_ws R_M F_M 10, w ∈ gw := by decide +kernel
set_option maxRecDepth 100000 in
theorem lk_L_7 : Cond.classLink R_L 7 R_B ∈ gw := List.mem_filter.mpr ⟨List.mem_of_getElem? (i := 23) (by decide +kernel), by decide +kernel⟩
set_option maxRecDepth 100000 in
theorem lk_L_9 : Cond.methodLink R_L 9 y_B_init ∈ gw := List.mem_filter.mpr ⟨List.mem_of_getElem? (i := 25) (by decide +kernel), by decide +kernel⟩
set_option maxRecDepth 100000 in
theorem lk_B_3 : Cond.methodLink R_B 3 Lib.objectInit ∈ gw := List.mem_filter.mpr ⟨List.mem_of_getElem? (i := 28) (by decide +kernel), by decide +kernel⟩
set_option maxRecDepth 100000 in
theorem lk_B_9 : Cond.classLink R_B 9 R_S ∈ gw := List.mem_filter.mpr ⟨List.mem_of_getElem? (i := 31) (by decide +kernel), by decide +kernel⟩
set_option maxRecDepth 100000 in
theorem lk_B_11 : Cond.methodLink R_B 11 y_S_init ∈ gw := List.mem_filter.mpr ⟨List.mem_of_getElem? (i := 33) (by decide +kernel), by decide +kernel⟩
set_option maxRecDepth 100000 in
theorem lk_S_3 : Cond.methodLink R_S 3 Lib.objectInit ∈ gw := List.mem_filter.mpr ⟨List.mem_of_getElem? (i := 36) (by decide +kernel), by decide +kernel⟩
set_option maxRecDepth 100000 in
theorem lk_S_15 : Cond.fieldLink R_S 15 "RunBitmaps$Shelf" "line" "[I" ∈ gw := List.mem_filter.mpr ⟨List.mem_of_getElem? (i := 37) (by decide +kernel), by decide +kernel⟩
set_option maxRecDepth 100000 in
theorem lk_S_19 : Cond.fieldLink R_S 19 "RunBitmaps$Shelf" "bounds" "[I" ∈ gw := List.mem_filter.mpr ⟨List.mem_of_getElem? (i := 38) (by decide +kernel), by decide +kernel⟩
set_option maxRecDepth 100000 in
theorem lk_S_9 : Cond.fieldLink R_S 9 "RunBitmaps$Shelf" "sets" "I" ∈ gw := List.mem_filter.mpr ⟨List.mem_of_getElem? (i := 39) (by decide +kernel), by decide +kernel⟩
set_option maxRecDepth 100000 in
theorem lk_B_39 : Cond.fieldLinkNest R_B 39 "RunBitmaps$Shelf" "sets" "I" R_B ∈ nw := List.mem_filter.mpr ⟨List.mem_of_getElem? (i := 40) (by decide +kernel), by decide +kernel⟩
set_option maxRecDepth 100000 in
theorem lk_B_31 : Cond.methodLink R_B 31 y_S_open ∈ gw := List.mem_filter.mpr ⟨List.mem_of_getElem? (i := 49) (by decide +kernel), by decide +kernel⟩
set_option maxRecDepth 100000 in
theorem lk_B_14 : Cond.fieldLink R_B 14 "RunBitmaps" "columns" "LRunBitmaps$Shelf;" ∈ gw := List.mem_filter.mpr ⟨List.mem_of_getElem? (i := 53) (by decide +kernel), by decide +kernel⟩
set_option maxRecDepth 100000 in
theorem lk_B_18 : Cond.fieldLink R_B 18 "RunBitmaps" "draft" "LRunBitmaps$Shelf;" ∈ gw := List.mem_filter.mpr ⟨List.mem_of_getElem? (i := 54) (by decide +kernel), by decide +kernel⟩
set_option maxRecDepth 100000 in
theorem lk_B_21 : Cond.fieldLink R_B 21 "RunBitmaps" "stack" "LRunBitmaps$Shelf;" ∈ gw := List.mem_filter.mpr ⟨List.mem_of_getElem? (i := 55) (by decide +kernel), by decide +kernel⟩
set_option maxRecDepth 100000 in
theorem lk_B_24 : Cond.fieldLink R_B 24 "RunBitmaps" "result" "LRunBitmaps$Shelf;" ∈ gw := List.mem_filter.mpr ⟨List.mem_of_getElem? (i := 56) (by decide +kernel), by decide +kernel⟩
set_option maxRecDepth 100000 in
theorem lk_B_27 : Cond.fieldLink R_B 27 "RunBitmaps" "rowCount" "I" ∈ gw := List.mem_filter.mpr ⟨List.mem_of_getElem? (i := 57) (by decide +kernel), by decide +kernel⟩
set_option maxRecDepth 100000 in
theorem lk_L_13 : Cond.methodLink R_L 13 y_B_append ∈ gw := List.mem_filter.mpr ⟨List.mem_of_getElem? (i := 69) (by decide +kernel), by decide +kernel⟩
set_option maxRecDepth 100000 in
theorem lk_B_34 : Cond.methodLink R_B 34 y_B_isValue ∈ gw := List.mem_filter.mpr ⟨List.mem_of_getElem? (i := 73) (by decide +kernel), by decide +kernel⟩
set_option maxRecDepth 100000 in
theorem lk_B_38 : Cond.constant R_B 38 1000000 ∈ gw := List.mem_filter.mpr ⟨List.mem_of_getElem? (i := 76) (by decide +kernel), by decide +kernel⟩
set_option maxRecDepth 100000 in
theorem lk_B_42 : Cond.methodLink R_B 42 y_S_clear ∈ gw := List.mem_filter.mpr ⟨List.mem_of_getElem? (i := 77) (by decide +kernel), by decide +kernel⟩
set_option maxRecDepth 100000 in
theorem lk_B_45 : Cond.methodLink R_B 45 y_B_draftColumn ∈ gw := List.mem_filter.mpr ⟨List.mem_of_getElem? (i := 81) (by decide +kernel), by decide +kernel⟩
set_option maxRecDepth 100000 in
theorem lk_B_90 : Cond.methodLink R_B 90 y_S_addSet ∈ gw := List.mem_filter.mpr ⟨List.mem_of_getElem? (i := 85) (by decide +kernel), by decide +kernel⟩
set_option maxRecDepth 100000 in
theorem lk_S_35 : Cond.methodLink R_S 35 y_S_size ∈ gw := List.mem_filter.mpr ⟨List.mem_of_getElem? (i := 89) (by decide +kernel), by decide +kernel⟩
set_option maxRecDepth 100000 in
theorem lk_S_31 : Cond.methodLink R_S 31 y_S_startOf ∈ gw := List.mem_filter.mpr ⟨List.mem_of_getElem? (i := 93) (by decide +kernel), by decide +kernel⟩
set_option maxRecDepth 100000 in
theorem lk_S_22 : Cond.methodLink R_S 22 Lib.Math.min.name ∈ gw := List.mem_filter.mpr ⟨List.mem_of_getElem? (i := 97) (by decide +kernel), by decide +kernel⟩
set_option maxRecDepth 100000 in
theorem lk_S_28 : Cond.methodLink R_S 28 Lib.Math.max.name ∈ gw := List.mem_filter.mpr ⟨List.mem_of_getElem? (i := 100) (by decide +kernel), by decide +kernel⟩
set_option maxRecDepth 100000 in
theorem lk_S_59 : Cond.methodLink R_S 59 y_S_used ∈ gw := List.mem_filter.mpr ⟨List.mem_of_getElem? (i := 103) (by decide +kernel), by decide +kernel⟩
set_option maxRecDepth 100000 in
theorem lk_S_63 : Cond.methodLink R_S 63 arraycopyName ∈ gw := List.mem_filter.mpr ⟨List.mem_of_getElem? (i := 107) (by decide +kernel), by decide +kernel⟩
set_option maxRecDepth 100000 in
theorem lk_B_94 : Cond.methodLink R_B 94 y_S_addRows ∈ gw := List.mem_filter.mpr ⟨List.mem_of_getElem? (i := 110) (by decide +kernel), by decide +kernel⟩
set_option maxRecDepth 100000 in
theorem lk_S_52 : Cond.constant R_S 52 2147483647 ∈ gw := List.mem_filter.mpr ⟨List.mem_of_getElem? (i := 114) (by decide +kernel), by decide +kernel⟩
set_option maxRecDepth 100000 in
theorem lk_S_69 : Cond.methodLink R_S 69 y_S_takeGroup ∈ gw := List.mem_filter.mpr ⟨List.mem_of_getElem? (i := 115) (by decide +kernel), by decide +kernel⟩
set_option maxRecDepth 100000 in
theorem lk_S_87 : Cond.methodLink R_S 87 y_S_lastWord ∈ gw := List.mem_filter.mpr ⟨List.mem_of_getElem? (i := 119) (by decide +kernel), by decide +kernel⟩
set_option maxRecDepth 100000 in
theorem lk_S_46 : Cond.methodLinkNest R_S 46 y_B_groupsOf R_B ∈ nw := List.mem_filter.mpr ⟨List.mem_of_getElem? (i := 123) (by decide +kernel), by decide +kernel⟩
set_option maxRecDepth 100000 in
theorem lk_S_38 : Cond.methodLinkNest R_S 38 y_B_bitsOf R_B ∈ nw := List.mem_filter.mpr ⟨List.mem_of_getElem? (i := 126) (by decide +kernel), by decide +kernel⟩
set_option maxRecDepth 100000 in
theorem lk_B_101 : Cond.constant R_B 101 2147483647 ∈ gw := List.mem_filter.mpr ⟨List.mem_of_getElem? (i := 129) (by decide +kernel), by decide +kernel⟩
set_option maxRecDepth 100000 in
theorem lk_S_90 : Cond.methodLinkNest R_S 90 y_B_fillOf R_B ∈ nw := List.mem_filter.mpr ⟨List.mem_of_getElem? (i := 130) (by decide +kernel), by decide +kernel⟩
set_option maxRecDepth 100000 in
theorem lk_S_53 : Cond.methodLinkNest R_S 53 y_B_firstBits R_B ∈ nw := List.mem_filter.mpr ⟨List.mem_of_getElem? (i := 133) (by decide +kernel), by decide +kernel⟩
set_option maxRecDepth 100000 in
theorem lk_S_72 : Cond.methodLink R_S 72 y_S_addGroups ∈ gw := List.mem_filter.mpr ⟨List.mem_of_getElem? (i := 136) (by decide +kernel), by decide +kernel⟩
set_option maxRecDepth 100000 in
theorem lk_S_83 : Cond.methodLink R_S 83 y_S_addWord ∈ gw := List.mem_filter.mpr ⟨List.mem_of_getElem? (i := 140) (by decide +kernel), by decide +kernel⟩
set_option maxRecDepth 100000 in
theorem lk_B_49 : Cond.methodLink R_B 49 y_S_used ∈ gw := List.mem_filter.mpr ⟨List.mem_of_getElem? (i := 144) (by decide +kernel), by decide +kernel⟩
set_option maxRecDepth 100000 in
theorem lk_L_18 : Cond.methodLink R_L 18 y_B_push ∈ gw := List.mem_filter.mpr ⟨List.mem_of_getElem? (i := 145) (by decide +kernel), by decide +kernel⟩
set_option maxRecDepth 100000 in
theorem lk_B_53 : Cond.methodLink R_B 53 y_B_stackUp ∈ gw := List.mem_filter.mpr ⟨List.mem_of_getElem? (i := 149) (by decide +kernel), by decide +kernel⟩
set_option maxRecDepth 100000 in
theorem lk_B_81 : Cond.methodLink R_B 81 y_S_size ∈ gw := List.mem_filter.mpr ⟨List.mem_of_getElem? (i := 153) (by decide +kernel), by decide +kernel⟩
set_option maxRecDepth 100000 in
theorem lk_L_23 : Cond.methodLink R_L 23 y_B_copy ∈ gw := List.mem_filter.mpr ⟨List.mem_of_getElem? (i := 154) (by decide +kernel), by decide +kernel⟩
set_option maxRecDepth 100000 in
theorem lk_L_28 : Cond.methodLink R_L 28 y_B_join ∈ gw := List.mem_filter.mpr ⟨List.mem_of_getElem? (i := 158) (by decide +kernel), by decide +kernel⟩
set_option maxRecDepth 100000 in
theorem lk_B_57 : Cond.methodLink R_B 57 y_S_addJoined ∈ gw := List.mem_filter.mpr ⟨List.mem_of_getElem? (i := 162) (by decide +kernel), by decide +kernel⟩
set_option maxRecDepth 100000 in
theorem lk_S_76 : Cond.methodLink R_S 76 y_S_groupsAt ∈ gw := List.mem_filter.mpr ⟨List.mem_of_getElem? (i := 166) (by decide +kernel), by decide +kernel⟩
set_option maxRecDepth 100000 in
theorem lk_S_79 : Cond.methodLinkNest R_S 79 y_B_joinedBits R_B ∈ nw := List.mem_filter.mpr ⟨List.mem_of_getElem? (i := 170) (by decide +kernel), by decide +kernel⟩
set_option maxRecDepth 100000 in
theorem lk_B_61 : Cond.methodLink R_B 61 y_B_replaceTop ∈ gw := List.mem_filter.mpr ⟨List.mem_of_getElem? (i := 173) (by decide +kernel), by decide +kernel⟩
set_option maxRecDepth 100000 in
theorem lk_B_98 : Cond.methodLink R_B 98 y_S_startOf ∈ gw := List.mem_filter.mpr ⟨List.mem_of_getElem? (i := 177) (by decide +kernel), by decide +kernel⟩
set_option maxRecDepth 100000 in
theorem lk_B_87 : Cond.methodLink R_B 87 y_S_drop ∈ gw := List.mem_filter.mpr ⟨List.mem_of_getElem? (i := 178) (by decide +kernel), by decide +kernel⟩
set_option maxRecDepth 100000 in
theorem lk_L_33 : Cond.methodLink R_L 33 y_B_not ∈ gw := List.mem_filter.mpr ⟨List.mem_of_getElem? (i := 182) (by decide +kernel), by decide +kernel⟩
set_option maxRecDepth 100000 in
theorem lk_B_65 : Cond.methodLink R_B 65 y_S_addOthers ∈ gw := List.mem_filter.mpr ⟨List.mem_of_getElem? (i := 186) (by decide +kernel), by decide +kernel⟩
set_option maxRecDepth 100000 in
theorem lk_L_37 : Cond.methodLink R_L 37 y_B_count ∈ gw := List.mem_filter.mpr ⟨List.mem_of_getElem? (i := 190) (by decide +kernel), by decide +kernel⟩
set_option maxRecDepth 100000 in
theorem lk_B_69 : Cond.methodLink R_B 69 y_S_rowsOf ∈ gw := List.mem_filter.mpr ⟨List.mem_of_getElem? (i := 194) (by decide +kernel), by decide +kernel⟩
set_option maxRecDepth 100000 in
theorem lk_S_41 : Cond.methodLink R_S 41 y_I_bitCount ∈ gw := List.mem_filter.mpr ⟨List.mem_of_getElem? (i := 198) (by decide +kernel), by decide +kernel⟩
set_option maxRecDepth 100000 in
theorem lk_I_265 : Cond.constant R_I 265 1431655765 ∈ gw := List.mem_filter.mpr ⟨List.mem_of_getElem? (i := 201) (by decide +kernel), by decide +kernel⟩
set_option maxRecDepth 100000 in
theorem lk_I_266 : Cond.constant R_I 266 858993459 ∈ gw := List.mem_filter.mpr ⟨List.mem_of_getElem? (i := 202) (by decide +kernel), by decide +kernel⟩
set_option maxRecDepth 100000 in
theorem lk_I_267 : Cond.constant R_I 267 252645135 ∈ gw := List.mem_filter.mpr ⟨List.mem_of_getElem? (i := 203) (by decide +kernel), by decide +kernel⟩
set_option maxRecDepth 100000 in
theorem lk_L_41 : Cond.methodLink R_L 41 y_B_after ∈ gw := List.mem_filter.mpr ⟨List.mem_of_getElem? (i := 204) (by decide +kernel), by decide +kernel⟩
set_option maxRecDepth 100000 in
theorem lk_B_72 : Cond.methodLink R_B 72 Lib.Math.max.name ∈ gw := List.mem_filter.mpr ⟨List.mem_of_getElem? (i := 208) (by decide +kernel), by decide +kernel⟩
set_option maxRecDepth 100000 in
theorem lk_B_78 : Cond.methodLink R_B 78 y_S_firstFrom ∈ gw := List.mem_filter.mpr ⟨List.mem_of_getElem? (i := 209) (by decide +kernel), by decide +kernel⟩
set_option maxRecDepth 100000 in
theorem lk_S_49 : Cond.methodLink R_S 49 y_S_firstInWord ∈ gw := List.mem_filter.mpr ⟨List.mem_of_getElem? (i := 213) (by decide +kernel), by decide +kernel⟩
set_option maxRecDepth 100000 in
theorem lk_S_56 : Cond.methodLink R_S 56 y_I_numberOfTrailingZeros ∈ gw := List.mem_filter.mpr ⟨List.mem_of_getElem? (i := 216) (by decide +kernel), by decide +kernel⟩
set_option maxRecDepth 100000 in
theorem lk_I_264 : Cond.constant R_I 264 65536 ∈ gw := List.mem_filter.mpr ⟨List.mem_of_getElem? (i := 219) (by decide +kernel), by decide +kernel⟩
set_option maxRecDepth 100000 in
theorem lk_L_45 : Cond.methodLink R_L 45 y_B_words ∈ gw := List.mem_filter.mpr ⟨List.mem_of_getElem? (i := 220) (by decide +kernel), by decide +kernel⟩
set_option maxRecDepth 100000 in
theorem lk_L_49 : Cond.methodLink R_L 49 y_B_word ∈ gw := List.mem_filter.mpr ⟨List.mem_of_getElem? (i := 224) (by decide +kernel), by decide +kernel⟩
set_option maxRecDepth 100000 in
theorem lk_B_84 : Cond.methodLink R_B 84 y_S_wordOf ∈ gw := List.mem_filter.mpr ⟨List.mem_of_getElem? (i := 228) (by decide +kernel), by decide +kernel⟩
set_option maxRecDepth 100000 in
theorem lk_L_53 : Cond.methodLink R_L 53 y_B_pop ∈ gw := List.mem_filter.mpr ⟨List.mem_of_getElem? (i := 232) (by decide +kernel), by decide +kernel⟩
set_option maxRecDepth 100000 in
theorem lk_L_57 : Cond.methodLink R_L 57 y_B_room ∈ gw := List.mem_filter.mpr ⟨List.mem_of_getElem? (i := 236) (by decide +kernel), by decide +kernel⟩
set_option maxRecDepth 100000 in
theorem lk_L_61 : Cond.methodLink R_L 61 y_B_stackRoom ∈ gw := List.mem_filter.mpr ⟨List.mem_of_getElem? (i := 240) (by decide +kernel), by decide +kernel⟩
set_option maxRecDepth 100000 in
theorem lk_L_65 : Cond.methodLink R_L 65 y_B_rows ∈ gw := List.mem_filter.mpr ⟨List.mem_of_getElem? (i := 244) (by decide +kernel), by decide +kernel⟩
set_option maxRecDepth 100000 in
theorem lk_L_10 : Cond.classLink R_L 10 R_M ∈ gw := List.mem_filter.mpr ⟨List.mem_of_getElem? (i := 248) (by decide +kernel), by decide +kernel⟩
set_option maxRecDepth 100000 in
theorem lk_L_12 : Cond.methodLink R_L 12 y_M_init ∈ gw := List.mem_filter.mpr ⟨List.mem_of_getElem? (i := 250) (by decide +kernel), by decide +kernel⟩
set_option maxRecDepth 100000 in
theorem lk_M_1 : Cond.methodLink R_M 1 Lib.objectInit ∈ gw := List.mem_filter.mpr ⟨List.mem_of_getElem? (i := 253) (by decide +kernel), by decide +kernel⟩
set_option maxRecDepth 100000 in
theorem lk_M_7 : Cond.constant R_M 7 33000 ∈ gw := List.mem_filter.mpr ⟨List.mem_of_getElem? (i := 254) (by decide +kernel), by decide +kernel⟩
set_option maxRecDepth 100000 in
theorem lk_M_14 : Cond.constant R_M 14 66000 ∈ gw := List.mem_filter.mpr ⟨List.mem_of_getElem? (i := 255) (by decide +kernel), by decide +kernel⟩
set_option maxRecDepth 100000 in
theorem lk_M_18 : Cond.constant R_M 18 200000 ∈ gw := List.mem_filter.mpr ⟨List.mem_of_getElem? (i := 256) (by decide +kernel), by decide +kernel⟩
set_option maxRecDepth 100000 in
theorem lk_M_8 : Cond.fieldLink R_M 8 "RunBitmapsModel" "ends" "[I" ∈ gw := List.mem_filter.mpr ⟨List.mem_of_getElem? (i := 257) (by decide +kernel), by decide +kernel⟩
set_option maxRecDepth 100000 in
theorem lk_M_15 : Cond.fieldLink R_M 15 "RunBitmapsModel" "values" "[I" ∈ gw := List.mem_filter.mpr ⟨List.mem_of_getElem? (i := 258) (by decide +kernel), by decide +kernel⟩
set_option maxRecDepth 100000 in
theorem lk_M_25 : Cond.fieldLink R_M 25 "RunBitmapsModel" "runs" "I" ∈ gw := List.mem_filter.mpr ⟨List.mem_of_getElem? (i := 259) (by decide +kernel), by decide +kernel⟩
set_option maxRecDepth 100000 in
theorem lk_M_19 : Cond.fieldLink R_M 19 "RunBitmapsModel" "lines" "[I" ∈ gw := List.mem_filter.mpr ⟨List.mem_of_getElem? (i := 260) (by decide +kernel), by decide +kernel⟩
set_option maxRecDepth 100000 in
theorem lk_M_22 : Cond.fieldLink R_M 22 "RunBitmapsModel" "begins" "[I" ∈ gw := List.mem_filter.mpr ⟨List.mem_of_getElem? (i := 261) (by decide +kernel), by decide +kernel⟩
set_option maxRecDepth 100000 in
theorem lk_M_54 : Cond.fieldLink R_M 54 "RunBitmapsModel" "sets" "I" ∈ gw := List.mem_filter.mpr ⟨List.mem_of_getElem? (i := 262) (by decide +kernel), by decide +kernel⟩
set_option maxRecDepth 100000 in
theorem lk_M_38 : Cond.fieldLink R_M 38 "RunBitmapsModel" "place" "I" ∈ gw := List.mem_filter.mpr ⟨List.mem_of_getElem? (i := 263) (by decide +kernel), by decide +kernel⟩
set_option maxRecDepth 100000 in
theorem lk_M_29 : Cond.fieldLink R_M 29 "RunBitmapsModel" "wordsSeen" "I" ∈ gw := List.mem_filter.mpr ⟨List.mem_of_getElem? (i := 264) (by decide +kernel), by decide +kernel⟩
set_option maxRecDepth 100000 in
theorem lk_M_32 : Cond.fieldLink R_M 32 "RunBitmapsModel" "wordWanted" "I" ∈ gw := List.mem_filter.mpr ⟨List.mem_of_getElem? (i := 265) (by decide +kernel), by decide +kernel⟩
set_option maxRecDepth 100000 in
theorem lk_M_35 : Cond.fieldLink R_M 35 "RunBitmapsModel" "wordFound" "I" ∈ gw := List.mem_filter.mpr ⟨List.mem_of_getElem? (i := 266) (by decide +kernel), by decide +kernel⟩
set_option maxRecDepth 100000 in
theorem lk_L_68 : Cond.methodLink R_L 68 y_M_rows ∈ gw := List.mem_filter.mpr ⟨List.mem_of_getElem? (i := 288) (by decide +kernel), by decide +kernel⟩
set_option maxRecDepth 100000 in
theorem lk_L_60 : Cond.methodLink R_L 60 y_M_room ∈ gw := List.mem_filter.mpr ⟨List.mem_of_getElem? (i := 292) (by decide +kernel), by decide +kernel⟩
set_option maxRecDepth 100000 in
theorem lk_M_57 : Cond.methodLink R_M 57 y_M_layValue ∈ gw := List.mem_filter.mpr ⟨List.mem_of_getElem? (i := 296) (by decide +kernel), by decide +kernel⟩
set_option maxRecDepth 100000 in
theorem lk_M_61 : Cond.methodLink R_M 61 y_M_goAlong ∈ gw := List.mem_filter.mpr ⟨List.mem_of_getElem? (i := 300) (by decide +kernel), by decide +kernel⟩
set_option maxRecDepth 100000 in
theorem lk_M_41 : Cond.methodLink R_M 41 y_M_rows ∈ gw := List.mem_filter.mpr ⟨List.mem_of_getElem? (i := 304) (by decide +kernel), by decide +kernel⟩
set_option maxRecDepth 100000 in
theorem lk_M_45 : Cond.constant R_M 45 2147483647 ∈ gw := List.mem_filter.mpr ⟨List.mem_of_getElem? (i := 305) (by decide +kernel), by decide +kernel⟩
set_option maxRecDepth 100000 in
theorem lk_M_46 : Cond.methodLink R_M 46 y_M_see ∈ gw := List.mem_filter.mpr ⟨List.mem_of_getElem? (i := 306) (by decide +kernel), by decide +kernel⟩
set_option maxRecDepth 100000 in
theorem lk_M_50 : Cond.methodLink R_M 50 y_M_literal ∈ gw := List.mem_filter.mpr ⟨List.mem_of_getElem? (i := 310) (by decide +kernel), by decide +kernel⟩
set_option maxRecDepth 100000 in
theorem lk_L_17 : Cond.methodLink R_L 17 y_M_append ∈ gw := List.mem_filter.mpr ⟨List.mem_of_getElem? (i := 314) (by decide +kernel), by decide +kernel⟩
set_option maxRecDepth 100000 in
theorem lk_M_64 : Cond.constant R_M 64 1000000 ∈ gw := List.mem_filter.mpr ⟨List.mem_of_getElem? (i := 318) (by decide +kernel), by decide +kernel⟩
set_option maxRecDepth 100000 in
theorem lk_M_65 : Cond.methodLink R_M 65 y_M_room ∈ gw := List.mem_filter.mpr ⟨List.mem_of_getElem? (i := 319) (by decide +kernel), by decide +kernel⟩
set_option maxRecDepth 100000 in
theorem lk_L_64 : Cond.methodLink R_L 64 y_M_stackRoom ∈ gw := List.mem_filter.mpr ⟨List.mem_of_getElem? (i := 320) (by decide +kernel), by decide +kernel⟩
set_option maxRecDepth 100000 in
theorem lk_M_68 : Cond.methodLink R_M 68 y_M_wordsOf ∈ gw := List.mem_filter.mpr ⟨List.mem_of_getElem? (i := 324) (by decide +kernel), by decide +kernel⟩
set_option maxRecDepth 100000 in
theorem lk_L_22 : Cond.methodLink R_L 22 y_M_push ∈ gw := List.mem_filter.mpr ⟨List.mem_of_getElem? (i := 328) (by decide +kernel), by decide +kernel⟩
set_option maxRecDepth 100000 in
theorem lk_M_75 : Cond.methodLink R_M 75 y_M_comes ∈ gw := List.mem_filter.mpr ⟨List.mem_of_getElem? (i := 332) (by decide +kernel), by decide +kernel⟩
set_option maxRecDepth 100000 in
theorem lk_M_72 : Cond.methodLink R_M 72 y_M_stackRoom ∈ gw := List.mem_filter.mpr ⟨List.mem_of_getElem? (i := 336) (by decide +kernel), by decide +kernel⟩
set_option maxRecDepth 100000 in
theorem lk_L_27 : Cond.methodLink R_L 27 y_M_copy ∈ gw := List.mem_filter.mpr ⟨List.mem_of_getElem? (i := 337) (by decide +kernel), by decide +kernel⟩
set_option maxRecDepth 100000 in
theorem lk_L_32 : Cond.methodLink R_L 32 y_M_join ∈ gw := List.mem_filter.mpr ⟨List.mem_of_getElem? (i := 341) (by decide +kernel), by decide +kernel⟩
set_option maxRecDepth 100000 in
theorem lk_M_83 : Cond.methodLink R_M 83 y_M_layJoined ∈ gw := List.mem_filter.mpr ⟨List.mem_of_getElem? (i := 345) (by decide +kernel), by decide +kernel⟩
set_option maxRecDepth 100000 in
theorem lk_M_79 : Cond.methodLink R_M 79 y_M_is ∈ gw := List.mem_filter.mpr ⟨List.mem_of_getElem? (i := 349) (by decide +kernel), by decide +kernel⟩
set_option maxRecDepth 100000 in
theorem lk_M_87 : Cond.methodLink R_M 87 y_M_become ∈ gw := List.mem_filter.mpr ⟨List.mem_of_getElem? (i := 352) (by decide +kernel), by decide +kernel⟩
set_option maxRecDepth 100000 in
theorem lk_L_36 : Cond.methodLink R_L 36 y_M_not ∈ gw := List.mem_filter.mpr ⟨List.mem_of_getElem? (i := 356) (by decide +kernel), by decide +kernel⟩
set_option maxRecDepth 100000 in
theorem lk_L_40 : Cond.methodLink R_L 40 y_M_count ∈ gw := List.mem_filter.mpr ⟨List.mem_of_getElem? (i := 360) (by decide +kernel), by decide +kernel⟩
set_option maxRecDepth 100000 in
theorem lk_L_44 : Cond.methodLink R_L 44 y_M_after ∈ gw := List.mem_filter.mpr ⟨List.mem_of_getElem? (i := 364) (by decide +kernel), by decide +kernel⟩
set_option maxRecDepth 100000 in
theorem lk_L_48 : Cond.methodLink R_L 48 y_M_words ∈ gw := List.mem_filter.mpr ⟨List.mem_of_getElem? (i := 368) (by decide +kernel), by decide +kernel⟩
set_option maxRecDepth 100000 in
theorem lk_L_52 : Cond.methodLink R_L 52 y_M_word ∈ gw := List.mem_filter.mpr ⟨List.mem_of_getElem? (i := 372) (by decide +kernel), by decide +kernel⟩
set_option maxRecDepth 100000 in
theorem lk_L_56 : Cond.methodLink R_L 56 y_M_pop ∈ gw := List.mem_filter.mpr ⟨List.mem_of_getElem? (i := 376) (by decide +kernel), by decide +kernel⟩
set_option maxRecDepth 100000 in
theorem ini_L : Cond.initialized "RunBitmapsLaw" ∈ gw := List.mem_filter.mpr ⟨List.mem_of_getElem? (i := 16) (by decide +kernel), by decide +kernel⟩
set_option maxRecDepth 100000 in
theorem ini_B : Cond.initialized "RunBitmaps" ∈ gw := List.mem_filter.mpr ⟨List.mem_of_getElem? (i := 17) (by decide +kernel), by decide +kernel⟩
set_option maxRecDepth 100000 in
theorem ini_S : Cond.initialized "RunBitmaps$Shelf" ∈ gw := List.mem_filter.mpr ⟨List.mem_of_getElem? (i := 18) (by decide +kernel), by decide +kernel⟩
set_option maxRecDepth 100000 in
theorem ini_M : Cond.initialized "RunBitmapsModel" ∈ gw := List.mem_filter.mpr ⟨List.mem_of_getElem? (i := 19) (by decide +kernel), by decide +kernel⟩
set_option maxRecDepth 100000 in
theorem ini_Ma : Cond.initialized "java/lang/Math" ∈ gw := List.mem_filter.mpr ⟨List.mem_of_getElem? (i := 20) (by decide +kernel), by decide +kernel⟩
set_option maxRecDepth 100000 in
theorem ini_Sy : Cond.initialized "java/lang/System" ∈ gw := List.mem_filter.mpr ⟨List.mem_of_getElem? (i := 21) (by decide +kernel), by decide +kernel⟩
set_option maxRecDepth 100000 in
theorem ini_I : Cond.initialized "java/lang/Integer" ∈ gw := List.mem_filter.mpr ⟨List.mem_of_getElem? (i := 22) (by decide +kernel), by decide +kernel⟩
set_option maxRecDepth 100000 in
theorem ist_B : Cond.instantiable R_B 5 ∈ gw := List.mem_filter.mpr ⟨List.mem_of_getElem? (i := 24) (by decide +kernel), by decide +kernel⟩
set_option maxRecDepth 100000 in
theorem ist_S : Cond.instantiable R_S 3 ∈ gw := List.mem_filter.mpr ⟨List.mem_of_getElem? (i := 32) (by decide +kernel), by decide +kernel⟩
set_option maxRecDepth 100000 in
theorem arr_int : Cond.arrayClass .int ∈ gw := List.mem_filter.mpr ⟨List.mem_of_getElem? (i := 48) (by decide +kernel), by decide +kernel⟩
set_option maxRecDepth 100000 in
theorem ist_M : Cond.instantiable R_M 10 ∈ gw := List.mem_filter.mpr ⟨List.mem_of_getElem? (i := 249) (by decide +kernel), by decide +kernel⟩
set_option maxRecDepth 100000 in
theorem oi_inst : Cond.instanceMethod Lib.objectInit ∈ gw := List.mem_filter.mpr ⟨List.mem_of_getElem? (i := 29) (by decide +kernel), by decide +kernel⟩
set_option maxRecDepth 100000 in
theorem oi_code : Cond.code Lib.objectInit ⟨#[0xb1]⟩ 1 none ∈ gw := List.mem_filter.mpr ⟨List.mem_of_getElem? (i := 30) (by decide +kernel), by decide +kernel⟩
set_option maxRecDepth 100000 in
theorem ma_max_st : Cond.static Lib.Math.max.name ∈ gw := List.mem_filter.mpr ⟨List.mem_of_getElem? (i := 101) (by decide +kernel), by decide +kernel⟩
set_option maxRecDepth 100000 in
theorem ma_max_cd : Cond.code Lib.Math.max.name Lib.Math.max.code 2 (some .int) ∈ gw := List.mem_filter.mpr ⟨List.mem_of_getElem? (i := 102) (by decide +kernel), by decide +kernel⟩
set_option maxRecDepth 100000 in
theorem ma_min_st : Cond.static Lib.Math.min.name ∈ gw := List.mem_filter.mpr ⟨List.mem_of_getElem? (i := 98) (by decide +kernel), by decide +kernel⟩
set_option maxRecDepth 100000 in
theorem ma_min_cd : Cond.code Lib.Math.min.name Lib.Math.min.code 2 (some .int) ∈ gw := List.mem_filter.mpr ⟨List.mem_of_getElem? (i := 99) (by decide +kernel), by decide +kernel⟩
set_option maxRecDepth 100000 in
theorem ac_nat : Cond.native arraycopyName ∈ gw := List.mem_filter.mpr ⟨List.mem_of_getElem? (i := 109) (by decide +kernel), by decide +kernel⟩
set_option maxRecDepth 100000 in
theorem ac_st : Cond.static arraycopyName ∈ gw := List.mem_filter.mpr ⟨List.mem_of_getElem? (i := 108) (by decide +kernel), by decide +kernel⟩
set_option maxRecDepth 100000 in
theorem cd_B_init : Cond.code y_B_init b_B_init 2 none ∈ gw ∧ Cond.initialized y_B_init.cls ∈ gw ∧ Cond.instanceMethod y_B_init ∈ gw ∧ y_B_init.name = "<init>" := ⟨List.mem_filter.mpr ⟨List.mem_of_getElem? (i := 27) (by decide +kernel), by decide +kernel⟩, ini_B, List.mem_filter.mpr ⟨List.mem_of_getElem? (i := 26) (by decide +kernel), by decide +kernel⟩, rfl⟩
set_option maxRecDepth 100000 in
theorem dd_B_init : (y_B_init.cls ≠ "java/lang/invoke/MethodHandle" ∧ y_B_init.cls ≠ "java/lang/invoke/VarHandle") ∧ (parseMethodDescriptor y_B_init.desc).map (fun d => d.parameters.length) = some 0 := by decide +kernel
set_option maxRecDepth 100000 in
theorem cd_S_init : Cond.code y_S_init b_S_init 3 none ∈ gw ∧ Cond.initialized y_S_init.cls ∈ gw ∧ Cond.instanceMethod y_S_init ∈ gw ∧ y_S_init.name = "<init>" := ⟨List.mem_filter.mpr ⟨List.mem_of_getElem? (i := 35) (by decide +kernel), by decide +kernel⟩, ini_S, List.mem_filter.mpr ⟨List.mem_of_getElem? (i := 34) (by decide +kernel), by decide +kernel⟩, rfl⟩
set_option maxRecDepth 100000 in
theorem dd_S_init : (y_S_init.cls ≠ "java/lang/invoke/MethodHandle" ∧ y_S_init.cls ≠ "java/lang/invoke/VarHandle") ∧ (parseMethodDescriptor y_S_init.desc).map (fun d => d.parameters.length) = some 2 := by decide +kernel
set_option maxRecDepth 100000 in
theorem cd_S_open : Cond.code y_S_open b_S_open 1 none ∈ gw ∧ Cond.initialized y_S_open.cls ∈ gw ∧ Cond.instanceMethod y_S_open ∈ gw ∧ Cond.selects y_S_open.cls y_S_open y_S_open ∈ gw := ⟨List.mem_filter.mpr ⟨List.mem_of_getElem? (i := 52) (by decide +kernel), by decide +kernel⟩, ini_S, List.mem_filter.mpr ⟨List.mem_of_getElem? (i := 50) (by decide +kernel), by decide +kernel⟩, List.mem_filter.mpr ⟨List.mem_of_getElem? (i := 51) (by decide +kernel), by decide +kernel⟩⟩
set_option maxRecDepth 100000 in
theorem dd_S_open : (y_S_open.cls ≠ "java/lang/invoke/MethodHandle" ∧ y_S_open.cls ≠ "java/lang/invoke/VarHandle") ∧ (parseMethodDescriptor y_S_open.desc).map (fun d => d.parameters.length) = some 0 := by decide +kernel
set_option maxRecDepth 100000 in
theorem cd_B_append : Cond.code y_B_append b_B_append 5 (some .int) ∈ gw ∧ Cond.initialized y_B_append.cls ∈ gw ∧ Cond.instanceMethod y_B_append ∈ gw ∧ Cond.selects y_B_append.cls y_B_append y_B_append ∈ gw := ⟨List.mem_filter.mpr ⟨List.mem_of_getElem? (i := 72) (by decide +kernel), by decide +kernel⟩, ini_B, List.mem_filter.mpr ⟨List.mem_of_getElem? (i := 70) (by decide +kernel), by decide +kernel⟩, List.mem_filter.mpr ⟨List.mem_of_getElem? (i := 71) (by decide +kernel), by decide +kernel⟩⟩
set_option maxRecDepth 100000 in
theorem dd_B_append : (y_B_append.cls ≠ "java/lang/invoke/MethodHandle" ∧ y_B_append.cls ≠ "java/lang/invoke/VarHandle") ∧ (parseMethodDescriptor y_B_append.desc).map (fun d => d.parameters.length) = some 3 := by decide +kernel
set_option maxRecDepth 100000 in
theorem cd_B_isValue : Cond.code y_B_isValue b_B_isValue 1 (some .boolean) ∈ gw ∧ Cond.initialized y_B_isValue.cls ∈ gw ∧ Cond.static y_B_isValue ∈ gw := ⟨List.mem_filter.mpr ⟨List.mem_of_getElem? (i := 75) (by decide +kernel), by decide +kernel⟩, ini_B, List.mem_filter.mpr ⟨List.mem_of_getElem? (i := 74) (by decide +kernel), by decide +kernel⟩⟩
set_option maxRecDepth 100000 in
theorem dd_B_isValue : (y_B_isValue.cls ≠ "java/lang/invoke/MethodHandle" ∧ y_B_isValue.cls ≠ "java/lang/invoke/VarHandle") ∧ (parseMethodDescriptor y_B_isValue.desc).map (fun d => d.parameters.length) = some 1 := by decide +kernel
set_option maxRecDepth 100000 in
theorem cd_S_clear : Cond.code y_S_clear b_S_clear 1 none ∈ gw ∧ Cond.initialized y_S_clear.cls ∈ gw ∧ Cond.instanceMethod y_S_clear ∈ gw ∧ Cond.selects y_S_clear.cls y_S_clear y_S_clear ∈ gw := ⟨List.mem_filter.mpr ⟨List.mem_of_getElem? (i := 80) (by decide +kernel), by decide +kernel⟩, ini_S, List.mem_filter.mpr ⟨List.mem_of_getElem? (i := 78) (by decide +kernel), by decide +kernel⟩, List.mem_filter.mpr ⟨List.mem_of_getElem? (i := 79) (by decide +kernel), by decide +kernel⟩⟩
set_option maxRecDepth 100000 in
theorem dd_S_clear : (y_S_clear.cls ≠ "java/lang/invoke/MethodHandle" ∧ y_S_clear.cls ≠ "java/lang/invoke/VarHandle") ∧ (parseMethodDescriptor y_S_clear.desc).map (fun d => d.parameters.length) = some 0 := by decide +kernel
set_option maxRecDepth 100000 in
theorem cd_B_draftColumn : Cond.code y_B_draftColumn b_B_draftColumn 5 none ∈ gw ∧ Cond.initialized y_B_draftColumn.cls ∈ gw ∧ Cond.instanceMethod y_B_draftColumn ∈ gw ∧ Cond.selects y_B_draftColumn.cls y_B_draftColumn y_B_draftColumn ∈ gw := ⟨List.mem_filter.mpr ⟨List.mem_of_getElem? (i := 84) (by decide +kernel), by decide +kernel⟩, ini_B, List.mem_filter.mpr ⟨List.mem_of_getElem? (i := 83) (by decide +kernel), by decide +kernel⟩, List.mem_filter.mpr ⟨List.mem_of_getElem? (i := 0) (by decide +kernel), by decide +kernel⟩⟩
set_option maxRecDepth 100000 in
theorem dd_B_draftColumn : (y_B_draftColumn.cls ≠ "java/lang/invoke/MethodHandle" ∧ y_B_draftColumn.cls ≠ "java/lang/invoke/VarHandle") ∧ (parseMethodDescriptor y_B_draftColumn.desc).map (fun d => d.parameters.length) = some 3 := by decide +kernel
set_option maxRecDepth 100000 in
theorem cd_S_addSet : Cond.code y_S_addSet b_S_addSet 4 none ∈ gw ∧ Cond.initialized y_S_addSet.cls ∈ gw ∧ Cond.instanceMethod y_S_addSet ∈ gw ∧ Cond.selects y_S_addSet.cls y_S_addSet y_S_addSet ∈ gw := ⟨List.mem_filter.mpr ⟨List.mem_of_getElem? (i := 88) (by decide +kernel), by decide +kernel⟩, ini_S, List.mem_filter.mpr ⟨List.mem_of_getElem? (i := 86) (by decide +kernel), by decide +kernel⟩, List.mem_filter.mpr ⟨List.mem_of_getElem? (i := 87) (by decide +kernel), by decide +kernel⟩⟩
set_option maxRecDepth 100000 in
theorem dd_S_addSet : (y_S_addSet.cls ≠ "java/lang/invoke/MethodHandle" ∧ y_S_addSet.cls ≠ "java/lang/invoke/VarHandle") ∧ (parseMethodDescriptor y_S_addSet.desc).map (fun d => d.parameters.length) = some 2 := by decide +kernel
set_option maxRecDepth 100000 in
theorem cd_S_size : Cond.code y_S_size b_S_size 2 (some .int) ∈ gw ∧ Cond.initialized y_S_size.cls ∈ gw ∧ Cond.instanceMethod y_S_size ∈ gw ∧ Cond.selects y_S_size.cls y_S_size y_S_size ∈ gw := ⟨List.mem_filter.mpr ⟨List.mem_of_getElem? (i := 92) (by decide +kernel), by decide +kernel⟩, ini_S, List.mem_filter.mpr ⟨List.mem_of_getElem? (i := 90) (by decide +kernel), by decide +kernel⟩, List.mem_filter.mpr ⟨List.mem_of_getElem? (i := 91) (by decide +kernel), by decide +kernel⟩⟩
set_option maxRecDepth 100000 in
theorem dd_S_size : (y_S_size.cls ≠ "java/lang/invoke/MethodHandle" ∧ y_S_size.cls ≠ "java/lang/invoke/VarHandle") ∧ (parseMethodDescriptor y_S_size.desc).map (fun d => d.parameters.length) = some 1 := by decide +kernel
set_option maxRecDepth 100000 in
theorem cd_S_startOf : Cond.code y_S_startOf b_S_startOf 2 (some .int) ∈ gw ∧ Cond.initialized y_S_startOf.cls ∈ gw ∧ Cond.instanceMethod y_S_startOf ∈ gw ∧ Cond.selects y_S_startOf.cls y_S_startOf y_S_startOf ∈ gw := ⟨List.mem_filter.mpr ⟨List.mem_of_getElem? (i := 96) (by decide +kernel), by decide +kernel⟩, ini_S, List.mem_filter.mpr ⟨List.mem_of_getElem? (i := 94) (by decide +kernel), by decide +kernel⟩, List.mem_filter.mpr ⟨List.mem_of_getElem? (i := 95) (by decide +kernel), by decide +kernel⟩⟩
set_option maxRecDepth 100000 in
theorem dd_S_startOf : (y_S_startOf.cls ≠ "java/lang/invoke/MethodHandle" ∧ y_S_startOf.cls ≠ "java/lang/invoke/VarHandle") ∧ (parseMethodDescriptor y_S_startOf.desc).map (fun d => d.parameters.length) = some 1 := by decide +kernel
set_option maxRecDepth 100000 in
theorem cd_S_used : Cond.code y_S_used b_S_used 1 (some .int) ∈ gw ∧ Cond.initialized y_S_used.cls ∈ gw ∧ Cond.instanceMethod y_S_used ∈ gw ∧ Cond.selects y_S_used.cls y_S_used y_S_used ∈ gw := ⟨List.mem_filter.mpr ⟨List.mem_of_getElem? (i := 106) (by decide +kernel), by decide +kernel⟩, ini_S, List.mem_filter.mpr ⟨List.mem_of_getElem? (i := 104) (by decide +kernel), by decide +kernel⟩, List.mem_filter.mpr ⟨List.mem_of_getElem? (i := 105) (by decide +kernel), by decide +kernel⟩⟩
set_option maxRecDepth 100000 in
theorem dd_S_used : (y_S_used.cls ≠ "java/lang/invoke/MethodHandle" ∧ y_S_used.cls ≠ "java/lang/invoke/VarHandle") ∧ (parseMethodDescriptor y_S_used.desc).map (fun d => d.parameters.length) = some 0 := by decide +kernel
set_option maxRecDepth 100000 in
theorem cd_S_addRows : Cond.code y_S_addRows b_S_addRows 7 none ∈ gw ∧ Cond.initialized y_S_addRows.cls ∈ gw ∧ Cond.instanceMethod y_S_addRows ∈ gw ∧ Cond.selects y_S_addRows.cls y_S_addRows y_S_addRows ∈ gw := ⟨List.mem_filter.mpr ⟨List.mem_of_getElem? (i := 113) (by decide +kernel), by decide +kernel⟩, ini_S, List.mem_filter.mpr ⟨List.mem_of_getElem? (i := 111) (by decide +kernel), by decide +kernel⟩, List.mem_filter.mpr ⟨List.mem_of_getElem? (i := 112) (by decide +kernel), by decide +kernel⟩⟩
set_option maxRecDepth 100000 in
theorem dd_S_addRows : (y_S_addRows.cls ≠ "java/lang/invoke/MethodHandle" ∧ y_S_addRows.cls ≠ "java/lang/invoke/VarHandle") ∧ (parseMethodDescriptor y_S_addRows.desc).map (fun d => d.parameters.length) = some 3 := by decide +kernel
set_option maxRecDepth 100000 in
theorem cd_S_takeGroup : Cond.code y_S_takeGroup b_S_takeGroup 2 (some .int) ∈ gw ∧ Cond.initialized y_S_takeGroup.cls ∈ gw ∧ Cond.instanceMethod y_S_takeGroup ∈ gw ∧ Cond.selects y_S_takeGroup.cls y_S_takeGroup y_S_takeGroup ∈ gw := ⟨List.mem_filter.mpr ⟨List.mem_of_getElem? (i := 118) (by decide +kernel), by decide +kernel⟩, ini_S, List.mem_filter.mpr ⟨List.mem_of_getElem? (i := 117) (by decide +kernel), by decide +kernel⟩, List.mem_filter.mpr ⟨List.mem_of_getElem? (i := 1) (by decide +kernel), by decide +kernel⟩⟩
set_option maxRecDepth 100000 in
theorem dd_S_takeGroup : (y_S_takeGroup.cls ≠ "java/lang/invoke/MethodHandle" ∧ y_S_takeGroup.cls ≠ "java/lang/invoke/VarHandle") ∧ (parseMethodDescriptor y_S_takeGroup.desc).map (fun d => d.parameters.length) = some 0 := by decide +kernel
set_option maxRecDepth 100000 in
theorem cd_S_lastWord : Cond.code y_S_lastWord b_S_lastWord 1 (some .int) ∈ gw ∧ Cond.initialized y_S_lastWord.cls ∈ gw ∧ Cond.instanceMethod y_S_lastWord ∈ gw ∧ Cond.selects y_S_lastWord.cls y_S_lastWord y_S_lastWord ∈ gw := ⟨List.mem_filter.mpr ⟨List.mem_of_getElem? (i := 122) (by decide +kernel), by decide +kernel⟩, ini_S, List.mem_filter.mpr ⟨List.mem_of_getElem? (i := 121) (by decide +kernel), by decide +kernel⟩, List.mem_filter.mpr ⟨List.mem_of_getElem? (i := 2) (by decide +kernel), by decide +kernel⟩⟩
set_option maxRecDepth 100000 in
theorem dd_S_lastWord : (y_S_lastWord.cls ≠ "java/lang/invoke/MethodHandle" ∧ y_S_lastWord.cls ≠ "java/lang/invoke/VarHandle") ∧ (parseMethodDescriptor y_S_lastWord.desc).map (fun d => d.parameters.length) = some 0 := by decide +kernel
set_option maxRecDepth 100000 in
theorem cd_B_groupsOf : Cond.code y_B_groupsOf b_B_groupsOf 1 (some .int) ∈ gw ∧ Cond.initialized y_B_groupsOf.cls ∈ gw ∧ Cond.static y_B_groupsOf ∈ gw := ⟨List.mem_filter.mpr ⟨List.mem_of_getElem? (i := 125) (by decide +kernel), by decide +kernel⟩, ini_B, List.mem_filter.mpr ⟨List.mem_of_getElem? (i := 124) (by decide +kernel), by decide +kernel⟩⟩
set_option maxRecDepth 100000 in
theorem dd_B_groupsOf : (y_B_groupsOf.cls ≠ "java/lang/invoke/MethodHandle" ∧ y_B_groupsOf.cls ≠ "java/lang/invoke/VarHandle") ∧ (parseMethodDescriptor y_B_groupsOf.desc).map (fun d => d.parameters.length) = some 1 := by decide +kernel
set_option maxRecDepth 100000 in
theorem cd_B_bitsOf : Cond.code y_B_bitsOf b_B_bitsOf 1 (some .int) ∈ gw ∧ Cond.initialized y_B_bitsOf.cls ∈ gw ∧ Cond.static y_B_bitsOf ∈ gw := ⟨List.mem_filter.mpr ⟨List.mem_of_getElem? (i := 128) (by decide +kernel), by decide +kernel⟩, ini_B, List.mem_filter.mpr ⟨List.mem_of_getElem? (i := 127) (by decide +kernel), by decide +kernel⟩⟩
set_option maxRecDepth 100000 in
theorem dd_B_bitsOf : (y_B_bitsOf.cls ≠ "java/lang/invoke/MethodHandle" ∧ y_B_bitsOf.cls ≠ "java/lang/invoke/VarHandle") ∧ (parseMethodDescriptor y_B_bitsOf.desc).map (fun d => d.parameters.length) = some 1 := by decide +kernel
set_option maxRecDepth 100000 in
theorem cd_B_fillOf : Cond.code y_B_fillOf b_B_fillOf 2 (some .int) ∈ gw ∧ Cond.initialized y_B_fillOf.cls ∈ gw ∧ Cond.static y_B_fillOf ∈ gw := ⟨List.mem_filter.mpr ⟨List.mem_of_getElem? (i := 132) (by decide +kernel), by decide +kernel⟩, ini_B, List.mem_filter.mpr ⟨List.mem_of_getElem? (i := 131) (by decide +kernel), by decide +kernel⟩⟩
set_option maxRecDepth 100000 in
theorem dd_B_fillOf : (y_B_fillOf.cls ≠ "java/lang/invoke/MethodHandle" ∧ y_B_fillOf.cls ≠ "java/lang/invoke/VarHandle") ∧ (parseMethodDescriptor y_B_fillOf.desc).map (fun d => d.parameters.length) = some 2 := by decide +kernel
set_option maxRecDepth 100000 in
theorem cd_B_firstBits : Cond.code y_B_firstBits b_B_firstBits 1 (some .int) ∈ gw ∧ Cond.initialized y_B_firstBits.cls ∈ gw ∧ Cond.static y_B_firstBits ∈ gw := ⟨List.mem_filter.mpr ⟨List.mem_of_getElem? (i := 135) (by decide +kernel), by decide +kernel⟩, ini_B, List.mem_filter.mpr ⟨List.mem_of_getElem? (i := 134) (by decide +kernel), by decide +kernel⟩⟩
set_option maxRecDepth 100000 in
theorem dd_B_firstBits : (y_B_firstBits.cls ≠ "java/lang/invoke/MethodHandle" ∧ y_B_firstBits.cls ≠ "java/lang/invoke/VarHandle") ∧ (parseMethodDescriptor y_B_firstBits.desc).map (fun d => d.parameters.length) = some 1 := by decide +kernel
set_option maxRecDepth 100000 in
theorem cd_S_addGroups : Cond.code y_S_addGroups b_S_addGroups 4 none ∈ gw ∧ Cond.initialized y_S_addGroups.cls ∈ gw ∧ Cond.instanceMethod y_S_addGroups ∈ gw ∧ Cond.selects y_S_addGroups.cls y_S_addGroups y_S_addGroups ∈ gw := ⟨List.mem_filter.mpr ⟨List.mem_of_getElem? (i := 139) (by decide +kernel), by decide +kernel⟩, ini_S, List.mem_filter.mpr ⟨List.mem_of_getElem? (i := 138) (by decide +kernel), by decide +kernel⟩, List.mem_filter.mpr ⟨List.mem_of_getElem? (i := 3) (by decide +kernel), by decide +kernel⟩⟩
set_option maxRecDepth 100000 in
theorem dd_S_addGroups : (y_S_addGroups.cls ≠ "java/lang/invoke/MethodHandle" ∧ y_S_addGroups.cls ≠ "java/lang/invoke/VarHandle") ∧ (parseMethodDescriptor y_S_addGroups.desc).map (fun d => d.parameters.length) = some 2 := by decide +kernel
set_option maxRecDepth 100000 in
theorem cd_S_addWord : Cond.code y_S_addWord b_S_addWord 2 none ∈ gw ∧ Cond.initialized y_S_addWord.cls ∈ gw ∧ Cond.instanceMethod y_S_addWord ∈ gw ∧ Cond.selects y_S_addWord.cls y_S_addWord y_S_addWord ∈ gw := ⟨List.mem_filter.mpr ⟨List.mem_of_getElem? (i := 143) (by decide +kernel), by decide +kernel⟩, ini_S, List.mem_filter.mpr ⟨List.mem_of_getElem? (i := 142) (by decide +kernel), by decide +kernel⟩, List.mem_filter.mpr ⟨List.mem_of_getElem? (i := 4) (by decide +kernel), by decide +kernel⟩⟩
set_option maxRecDepth 100000 in
theorem dd_S_addWord : (y_S_addWord.cls ≠ "java/lang/invoke/MethodHandle" ∧ y_S_addWord.cls ≠ "java/lang/invoke/VarHandle") ∧ (parseMethodDescriptor y_S_addWord.desc).map (fun d => d.parameters.length) = some 1 := by decide +kernel
set_option maxRecDepth 100000 in
theorem cd_B_push : Cond.code y_B_push b_B_push 3 (some .int) ∈ gw ∧ Cond.initialized y_B_push.cls ∈ gw ∧ Cond.instanceMethod y_B_push ∈ gw ∧ Cond.selects y_B_push.cls y_B_push y_B_push ∈ gw := ⟨List.mem_filter.mpr ⟨List.mem_of_getElem? (i := 148) (by decide +kernel), by decide +kernel⟩, ini_B, List.mem_filter.mpr ⟨List.mem_of_getElem? (i := 146) (by decide +kernel), by decide +kernel⟩, List.mem_filter.mpr ⟨List.mem_of_getElem? (i := 147) (by decide +kernel), by decide +kernel⟩⟩
set_option maxRecDepth 100000 in
theorem dd_B_push : (y_B_push.cls ≠ "java/lang/invoke/MethodHandle" ∧ y_B_push.cls ≠ "java/lang/invoke/VarHandle") ∧ (parseMethodDescriptor y_B_push.desc).map (fun d => d.parameters.length) = some 2 := by decide +kernel
set_option maxRecDepth 100000 in
theorem cd_B_stackUp : Cond.code y_B_stackUp b_B_stackUp 3 (some .int) ∈ gw ∧ Cond.initialized y_B_stackUp.cls ∈ gw ∧ Cond.instanceMethod y_B_stackUp ∈ gw ∧ Cond.selects y_B_stackUp.cls y_B_stackUp y_B_stackUp ∈ gw := ⟨List.mem_filter.mpr ⟨List.mem_of_getElem? (i := 152) (by decide +kernel), by decide +kernel⟩, ini_B, List.mem_filter.mpr ⟨List.mem_of_getElem? (i := 151) (by decide +kernel), by decide +kernel⟩, List.mem_filter.mpr ⟨List.mem_of_getElem? (i := 5) (by decide +kernel), by decide +kernel⟩⟩
set_option maxRecDepth 100000 in
theorem dd_B_stackUp : (y_B_stackUp.cls ≠ "java/lang/invoke/MethodHandle" ∧ y_B_stackUp.cls ≠ "java/lang/invoke/VarHandle") ∧ (parseMethodDescriptor y_B_stackUp.desc).map (fun d => d.parameters.length) = some 2 := by decide +kernel
set_option maxRecDepth 100000 in
theorem cd_B_copy : Cond.code y_B_copy b_B_copy 1 (some .int) ∈ gw ∧ Cond.initialized y_B_copy.cls ∈ gw ∧ Cond.instanceMethod y_B_copy ∈ gw ∧ Cond.selects y_B_copy.cls y_B_copy y_B_copy ∈ gw := ⟨List.mem_filter.mpr ⟨List.mem_of_getElem? (i := 157) (by decide +kernel), by decide +kernel⟩, ini_B, List.mem_filter.mpr ⟨List.mem_of_getElem? (i := 155) (by decide +kernel), by decide +kernel⟩, List.mem_filter.mpr ⟨List.mem_of_getElem? (i := 156) (by decide +kernel), by decide +kernel⟩⟩
set_option maxRecDepth 100000 in
theorem dd_B_copy : (y_B_copy.cls ≠ "java/lang/invoke/MethodHandle" ∧ y_B_copy.cls ≠ "java/lang/invoke/VarHandle") ∧ (parseMethodDescriptor y_B_copy.desc).map (fun d => d.parameters.length) = some 0 := by decide +kernel
set_option maxRecDepth 100000 in
theorem cd_B_join : Cond.code y_B_join b_B_join 2 (some .int) ∈ gw ∧ Cond.initialized y_B_join.cls ∈ gw ∧ Cond.instanceMethod y_B_join ∈ gw ∧ Cond.selects y_B_join.cls y_B_join y_B_join ∈ gw := ⟨List.mem_filter.mpr ⟨List.mem_of_getElem? (i := 161) (by decide +kernel), by decide +kernel⟩, ini_B, List.mem_filter.mpr ⟨List.mem_of_getElem? (i := 159) (by decide +kernel), by decide +kernel⟩, List.mem_filter.mpr ⟨List.mem_of_getElem? (i := 160) (by decide +kernel), by decide +kernel⟩⟩
set_option maxRecDepth 100000 in
theorem dd_B_join : (y_B_join.cls ≠ "java/lang/invoke/MethodHandle" ∧ y_B_join.cls ≠ "java/lang/invoke/VarHandle") ∧ (parseMethodDescriptor y_B_join.desc).map (fun d => d.parameters.length) = some 1 := by decide +kernel
set_option maxRecDepth 100000 in
theorem cd_S_addJoined : Cond.code y_S_addJoined b_S_addJoined 14 none ∈ gw ∧ Cond.initialized y_S_addJoined.cls ∈ gw ∧ Cond.instanceMethod y_S_addJoined ∈ gw ∧ Cond.selects y_S_addJoined.cls y_S_addJoined y_S_addJoined ∈ gw := ⟨List.mem_filter.mpr ⟨List.mem_of_getElem? (i := 165) (by decide +kernel), by decide +kernel⟩, ini_S, List.mem_filter.mpr ⟨List.mem_of_getElem? (i := 163) (by decide +kernel), by decide +kernel⟩, List.mem_filter.mpr ⟨List.mem_of_getElem? (i := 164) (by decide +kernel), by decide +kernel⟩⟩
set_option maxRecDepth 100000 in
theorem dd_S_addJoined : (y_S_addJoined.cls ≠ "java/lang/invoke/MethodHandle" ∧ y_S_addJoined.cls ≠ "java/lang/invoke/VarHandle") ∧ (parseMethodDescriptor y_S_addJoined.desc).map (fun d => d.parameters.length) = some 4 := by decide +kernel
set_option maxRecDepth 100000 in
theorem cd_S_groupsAt : Cond.code y_S_groupsAt b_S_groupsAt 2 (some .int) ∈ gw ∧ Cond.initialized y_S_groupsAt.cls ∈ gw ∧ Cond.instanceMethod y_S_groupsAt ∈ gw ∧ Cond.selects y_S_groupsAt.cls y_S_groupsAt y_S_groupsAt ∈ gw := ⟨List.mem_filter.mpr ⟨List.mem_of_getElem? (i := 169) (by decide +kernel), by decide +kernel⟩, ini_S, List.mem_filter.mpr ⟨List.mem_of_getElem? (i := 168) (by decide +kernel), by decide +kernel⟩, List.mem_filter.mpr ⟨List.mem_of_getElem? (i := 6) (by decide +kernel), by decide +kernel⟩⟩
set_option maxRecDepth 100000 in
theorem dd_S_groupsAt : (y_S_groupsAt.cls ≠ "java/lang/invoke/MethodHandle" ∧ y_S_groupsAt.cls ≠ "java/lang/invoke/VarHandle") ∧ (parseMethodDescriptor y_S_groupsAt.desc).map (fun d => d.parameters.length) = some 1 := by decide +kernel
set_option maxRecDepth 100000 in
theorem cd_B_joinedBits : Cond.code y_B_joinedBits b_B_joinedBits 3 (some .int) ∈ gw ∧ Cond.initialized y_B_joinedBits.cls ∈ gw ∧ Cond.static y_B_joinedBits ∈ gw := ⟨List.mem_filter.mpr ⟨List.mem_of_getElem? (i := 172) (by decide +kernel), by decide +kernel⟩, ini_B, List.mem_filter.mpr ⟨List.mem_of_getElem? (i := 171) (by decide +kernel), by decide +kernel⟩⟩
set_option maxRecDepth 100000 in
theorem dd_B_joinedBits : (y_B_joinedBits.cls ≠ "java/lang/invoke/MethodHandle" ∧ y_B_joinedBits.cls ≠ "java/lang/invoke/VarHandle") ∧ (parseMethodDescriptor y_B_joinedBits.desc).map (fun d => d.parameters.length) = some 3 := by decide +kernel
set_option maxRecDepth 100000 in
theorem cd_B_replaceTop : Cond.code y_B_replaceTop b_B_replaceTop 4 (some .int) ∈ gw ∧ Cond.initialized y_B_replaceTop.cls ∈ gw ∧ Cond.instanceMethod y_B_replaceTop ∈ gw ∧ Cond.selects y_B_replaceTop.cls y_B_replaceTop y_B_replaceTop ∈ gw := ⟨List.mem_filter.mpr ⟨List.mem_of_getElem? (i := 176) (by decide +kernel), by decide +kernel⟩, ini_B, List.mem_filter.mpr ⟨List.mem_of_getElem? (i := 175) (by decide +kernel), by decide +kernel⟩, List.mem_filter.mpr ⟨List.mem_of_getElem? (i := 7) (by decide +kernel), by decide +kernel⟩⟩
set_option maxRecDepth 100000 in
theorem dd_B_replaceTop : (y_B_replaceTop.cls ≠ "java/lang/invoke/MethodHandle" ∧ y_B_replaceTop.cls ≠ "java/lang/invoke/VarHandle") ∧ (parseMethodDescriptor y_B_replaceTop.desc).map (fun d => d.parameters.length) = some 1 := by decide +kernel
set_option maxRecDepth 100000 in
theorem cd_S_drop : Cond.code y_S_drop b_S_drop 1 none ∈ gw ∧ Cond.initialized y_S_drop.cls ∈ gw ∧ Cond.instanceMethod y_S_drop ∈ gw ∧ Cond.selects y_S_drop.cls y_S_drop y_S_drop ∈ gw := ⟨List.mem_filter.mpr ⟨List.mem_of_getElem? (i := 181) (by decide +kernel), by decide +kernel⟩, ini_S, List.mem_filter.mpr ⟨List.mem_of_getElem? (i := 179) (by decide +kernel), by decide +kernel⟩, List.mem_filter.mpr ⟨List.mem_of_getElem? (i := 180) (by decide +kernel), by decide +kernel⟩⟩
set_option maxRecDepth 100000 in
theorem dd_S_drop : (y_S_drop.cls ≠ "java/lang/invoke/MethodHandle" ∧ y_S_drop.cls ≠ "java/lang/invoke/VarHandle") ∧ (parseMethodDescriptor y_S_drop.desc).map (fun d => d.parameters.length) = some 0 := by decide +kernel
set_option maxRecDepth 100000 in
theorem cd_B_not : Cond.code y_B_not b_B_not 1 (some .int) ∈ gw ∧ Cond.initialized y_B_not.cls ∈ gw ∧ Cond.instanceMethod y_B_not ∈ gw ∧ Cond.selects y_B_not.cls y_B_not y_B_not ∈ gw := ⟨List.mem_filter.mpr ⟨List.mem_of_getElem? (i := 185) (by decide +kernel), by decide +kernel⟩, ini_B, List.mem_filter.mpr ⟨List.mem_of_getElem? (i := 183) (by decide +kernel), by decide +kernel⟩, List.mem_filter.mpr ⟨List.mem_of_getElem? (i := 184) (by decide +kernel), by decide +kernel⟩⟩
set_option maxRecDepth 100000 in
theorem dd_B_not : (y_B_not.cls ≠ "java/lang/invoke/MethodHandle" ∧ y_B_not.cls ≠ "java/lang/invoke/VarHandle") ∧ (parseMethodDescriptor y_B_not.desc).map (fun d => d.parameters.length) = some 0 := by decide +kernel
set_option maxRecDepth 100000 in
theorem cd_S_addOthers : Cond.code y_S_addOthers b_S_addOthers 6 none ∈ gw ∧ Cond.initialized y_S_addOthers.cls ∈ gw ∧ Cond.instanceMethod y_S_addOthers ∈ gw ∧ Cond.selects y_S_addOthers.cls y_S_addOthers y_S_addOthers ∈ gw := ⟨List.mem_filter.mpr ⟨List.mem_of_getElem? (i := 189) (by decide +kernel), by decide +kernel⟩, ini_S, List.mem_filter.mpr ⟨List.mem_of_getElem? (i := 187) (by decide +kernel), by decide +kernel⟩, List.mem_filter.mpr ⟨List.mem_of_getElem? (i := 188) (by decide +kernel), by decide +kernel⟩⟩
set_option maxRecDepth 100000 in
theorem dd_S_addOthers : (y_S_addOthers.cls ≠ "java/lang/invoke/MethodHandle" ∧ y_S_addOthers.cls ≠ "java/lang/invoke/VarHandle") ∧ (parseMethodDescriptor y_S_addOthers.desc).map (fun d => d.parameters.length) = some 3 := by decide +kernel
set_option maxRecDepth 100000 in
theorem cd_B_count : Cond.code y_B_count b_B_count 1 (some .int) ∈ gw ∧ Cond.initialized y_B_count.cls ∈ gw ∧ Cond.instanceMethod y_B_count ∈ gw ∧ Cond.selects y_B_count.cls y_B_count y_B_count ∈ gw := ⟨List.mem_filter.mpr ⟨List.mem_of_getElem? (i := 193) (by decide +kernel), by decide +kernel⟩, ini_B, List.mem_filter.mpr ⟨List.mem_of_getElem? (i := 191) (by decide +kernel), by decide +kernel⟩, List.mem_filter.mpr ⟨List.mem_of_getElem? (i := 192) (by decide +kernel), by decide +kernel⟩⟩
set_option maxRecDepth 100000 in
theorem dd_B_count : (y_B_count.cls ≠ "java/lang/invoke/MethodHandle" ∧ y_B_count.cls ≠ "java/lang/invoke/VarHandle") ∧ (parseMethodDescriptor y_B_count.desc).map (fun d => d.parameters.length) = some 0 := by decide +kernel
set_option maxRecDepth 100000 in
theorem cd_S_rowsOf : Cond.code y_S_rowsOf b_S_rowsOf 5 (some .int) ∈ gw ∧ Cond.initialized y_S_rowsOf.cls ∈ gw ∧ Cond.instanceMethod y_S_rowsOf ∈ gw ∧ Cond.selects y_S_rowsOf.cls y_S_rowsOf y_S_rowsOf ∈ gw := ⟨List.mem_filter.mpr ⟨List.mem_of_getElem? (i := 197) (by decide +kernel), by decide +kernel⟩, ini_S, List.mem_filter.mpr ⟨List.mem_of_getElem? (i := 195) (by decide +kernel), by decide +kernel⟩, List.mem_filter.mpr ⟨List.mem_of_getElem? (i := 196) (by decide +kernel), by decide +kernel⟩⟩
set_option maxRecDepth 100000 in
theorem dd_S_rowsOf : (y_S_rowsOf.cls ≠ "java/lang/invoke/MethodHandle" ∧ y_S_rowsOf.cls ≠ "java/lang/invoke/VarHandle") ∧ (parseMethodDescriptor y_S_rowsOf.desc).map (fun d => d.parameters.length) = some 1 := by decide +kernel
set_option maxRecDepth 100000 in
theorem cd_I_bitCount : Cond.code y_I_bitCount b_I_bitCount 1 (some .int) ∈ gw ∧ Cond.initialized y_I_bitCount.cls ∈ gw ∧ Cond.static y_I_bitCount ∈ gw := ⟨List.mem_filter.mpr ⟨List.mem_of_getElem? (i := 200) (by decide +kernel), by decide +kernel⟩, ini_I, List.mem_filter.mpr ⟨List.mem_of_getElem? (i := 199) (by decide +kernel), by decide +kernel⟩⟩
set_option maxRecDepth 100000 in
theorem dd_I_bitCount : (y_I_bitCount.cls ≠ "java/lang/invoke/MethodHandle" ∧ y_I_bitCount.cls ≠ "java/lang/invoke/VarHandle") ∧ (parseMethodDescriptor y_I_bitCount.desc).map (fun d => d.parameters.length) = some 1 := by decide +kernel
set_option maxRecDepth 100000 in
theorem cd_B_after : Cond.code y_B_after b_B_after 2 (some .int) ∈ gw ∧ Cond.initialized y_B_after.cls ∈ gw ∧ Cond.instanceMethod y_B_after ∈ gw ∧ Cond.selects y_B_after.cls y_B_after y_B_after ∈ gw := ⟨List.mem_filter.mpr ⟨List.mem_of_getElem? (i := 207) (by decide +kernel), by decide +kernel⟩, ini_B, List.mem_filter.mpr ⟨List.mem_of_getElem? (i := 205) (by decide +kernel), by decide +kernel⟩, List.mem_filter.mpr ⟨List.mem_of_getElem? (i := 206) (by decide +kernel), by decide +kernel⟩⟩
set_option maxRecDepth 100000 in
theorem dd_B_after : (y_B_after.cls ≠ "java/lang/invoke/MethodHandle" ∧ y_B_after.cls ≠ "java/lang/invoke/VarHandle") ∧ (parseMethodDescriptor y_B_after.desc).map (fun d => d.parameters.length) = some 1 := by decide +kernel
set_option maxRecDepth 100000 in
theorem cd_S_firstFrom : Cond.code y_S_firstFrom b_S_firstFrom 8 (some .int) ∈ gw ∧ Cond.initialized y_S_firstFrom.cls ∈ gw ∧ Cond.instanceMethod y_S_firstFrom ∈ gw ∧ Cond.selects y_S_firstFrom.cls y_S_firstFrom y_S_firstFrom ∈ gw := ⟨List.mem_filter.mpr ⟨List.mem_of_getElem? (i := 212) (by decide +kernel), by decide +kernel⟩, ini_S, List.mem_filter.mpr ⟨List.mem_of_getElem? (i := 210) (by decide +kernel), by decide +kernel⟩, List.mem_filter.mpr ⟨List.mem_of_getElem? (i := 211) (by decide +kernel), by decide +kernel⟩⟩
set_option maxRecDepth 100000 in
theorem dd_S_firstFrom : (y_S_firstFrom.cls ≠ "java/lang/invoke/MethodHandle" ∧ y_S_firstFrom.cls ≠ "java/lang/invoke/VarHandle") ∧ (parseMethodDescriptor y_S_firstFrom.desc).map (fun d => d.parameters.length) = some 2 := by decide +kernel
set_option maxRecDepth 100000 in
theorem cd_S_firstInWord : Cond.code y_S_firstInWord b_S_firstInWord 4 (some .int) ∈ gw ∧ Cond.initialized y_S_firstInWord.cls ∈ gw ∧ Cond.static y_S_firstInWord ∈ gw := ⟨List.mem_filter.mpr ⟨List.mem_of_getElem? (i := 215) (by decide +kernel), by decide +kernel⟩, ini_S, List.mem_filter.mpr ⟨List.mem_of_getElem? (i := 214) (by decide +kernel), by decide +kernel⟩⟩
set_option maxRecDepth 100000 in
theorem dd_S_firstInWord : (y_S_firstInWord.cls ≠ "java/lang/invoke/MethodHandle" ∧ y_S_firstInWord.cls ≠ "java/lang/invoke/VarHandle") ∧ (parseMethodDescriptor y_S_firstInWord.desc).map (fun d => d.parameters.length) = some 2 := by decide +kernel
set_option maxRecDepth 100000 in
theorem cd_I_numberOfTrailingZeros : Cond.code y_I_numberOfTrailingZeros b_I_numberOfTrailingZeros 2 (some .int) ∈ gw ∧ Cond.initialized y_I_numberOfTrailingZeros.cls ∈ gw ∧ Cond.static y_I_numberOfTrailingZeros ∈ gw := ⟨List.mem_filter.mpr ⟨List.mem_of_getElem? (i := 218) (by decide +kernel), by decide +kernel⟩, ini_I, List.mem_filter.mpr ⟨List.mem_of_getElem? (i := 217) (by decide +kernel), by decide +kernel⟩⟩
set_option maxRecDepth 100000 in
theorem dd_I_numberOfTrailingZeros : (y_I_numberOfTrailingZeros.cls ≠ "java/lang/invoke/MethodHandle" ∧ y_I_numberOfTrailingZeros.cls ≠ "java/lang/invoke/VarHandle") ∧ (parseMethodDescriptor y_I_numberOfTrailingZeros.desc).map (fun d => d.parameters.length) = some 1 := by decide +kernel
set_option maxRecDepth 100000 in
theorem cd_B_words : Cond.code y_B_words b_B_words 1 (some .int) ∈ gw ∧ Cond.initialized y_B_words.cls ∈ gw ∧ Cond.instanceMethod y_B_words ∈ gw ∧ Cond.selects y_B_words.cls y_B_words y_B_words ∈ gw := ⟨List.mem_filter.mpr ⟨List.mem_of_getElem? (i := 223) (by decide +kernel), by decide +kernel⟩, ini_B, List.mem_filter.mpr ⟨List.mem_of_getElem? (i := 221) (by decide +kernel), by decide +kernel⟩, List.mem_filter.mpr ⟨List.mem_of_getElem? (i := 222) (by decide +kernel), by decide +kernel⟩⟩
set_option maxRecDepth 100000 in
theorem dd_B_words : (y_B_words.cls ≠ "java/lang/invoke/MethodHandle" ∧ y_B_words.cls ≠ "java/lang/invoke/VarHandle") ∧ (parseMethodDescriptor y_B_words.desc).map (fun d => d.parameters.length) = some 0 := by decide +kernel
set_option maxRecDepth 100000 in
theorem cd_B_word : Cond.code y_B_word b_B_word 2 (some .int) ∈ gw ∧ Cond.initialized y_B_word.cls ∈ gw ∧ Cond.instanceMethod y_B_word ∈ gw ∧ Cond.selects y_B_word.cls y_B_word y_B_word ∈ gw := ⟨List.mem_filter.mpr ⟨List.mem_of_getElem? (i := 227) (by decide +kernel), by decide +kernel⟩, ini_B, List.mem_filter.mpr ⟨List.mem_of_getElem? (i := 225) (by decide +kernel), by decide +kernel⟩, List.mem_filter.mpr ⟨List.mem_of_getElem? (i := 226) (by decide +kernel), by decide +kernel⟩⟩
set_option maxRecDepth 100000 in
theorem dd_B_word : (y_B_word.cls ≠ "java/lang/invoke/MethodHandle" ∧ y_B_word.cls ≠ "java/lang/invoke/VarHandle") ∧ (parseMethodDescriptor y_B_word.desc).map (fun d => d.parameters.length) = some 1 := by decide +kernel
set_option maxRecDepth 100000 in
theorem cd_S_wordOf : Cond.code y_S_wordOf b_S_wordOf 3 (some .int) ∈ gw ∧ Cond.initialized y_S_wordOf.cls ∈ gw ∧ Cond.instanceMethod y_S_wordOf ∈ gw ∧ Cond.selects y_S_wordOf.cls y_S_wordOf y_S_wordOf ∈ gw := ⟨List.mem_filter.mpr ⟨List.mem_of_getElem? (i := 231) (by decide +kernel), by decide +kernel⟩, ini_S, List.mem_filter.mpr ⟨List.mem_of_getElem? (i := 229) (by decide +kernel), by decide +kernel⟩, List.mem_filter.mpr ⟨List.mem_of_getElem? (i := 230) (by decide +kernel), by decide +kernel⟩⟩
set_option maxRecDepth 100000 in
theorem dd_S_wordOf : (y_S_wordOf.cls ≠ "java/lang/invoke/MethodHandle" ∧ y_S_wordOf.cls ≠ "java/lang/invoke/VarHandle") ∧ (parseMethodDescriptor y_S_wordOf.desc).map (fun d => d.parameters.length) = some 2 := by decide +kernel
set_option maxRecDepth 100000 in
theorem cd_B_pop : Cond.code y_B_pop b_B_pop 1 (some .int) ∈ gw ∧ Cond.initialized y_B_pop.cls ∈ gw ∧ Cond.instanceMethod y_B_pop ∈ gw ∧ Cond.selects y_B_pop.cls y_B_pop y_B_pop ∈ gw := ⟨List.mem_filter.mpr ⟨List.mem_of_getElem? (i := 235) (by decide +kernel), by decide +kernel⟩, ini_B, List.mem_filter.mpr ⟨List.mem_of_getElem? (i := 233) (by decide +kernel), by decide +kernel⟩, List.mem_filter.mpr ⟨List.mem_of_getElem? (i := 234) (by decide +kernel), by decide +kernel⟩⟩
set_option maxRecDepth 100000 in
theorem dd_B_pop : (y_B_pop.cls ≠ "java/lang/invoke/MethodHandle" ∧ y_B_pop.cls ≠ "java/lang/invoke/VarHandle") ∧ (parseMethodDescriptor y_B_pop.desc).map (fun d => d.parameters.length) = some 0 := by decide +kernel
set_option maxRecDepth 100000 in
theorem cd_B_room : Cond.code y_B_room b_B_room 1 (some .int) ∈ gw ∧ Cond.initialized y_B_room.cls ∈ gw ∧ Cond.instanceMethod y_B_room ∈ gw ∧ Cond.selects y_B_room.cls y_B_room y_B_room ∈ gw := ⟨List.mem_filter.mpr ⟨List.mem_of_getElem? (i := 239) (by decide +kernel), by decide +kernel⟩, ini_B, List.mem_filter.mpr ⟨List.mem_of_getElem? (i := 237) (by decide +kernel), by decide +kernel⟩, List.mem_filter.mpr ⟨List.mem_of_getElem? (i := 238) (by decide +kernel), by decide +kernel⟩⟩
set_option maxRecDepth 100000 in
theorem dd_B_room : (y_B_room.cls ≠ "java/lang/invoke/MethodHandle" ∧ y_B_room.cls ≠ "java/lang/invoke/VarHandle") ∧ (parseMethodDescriptor y_B_room.desc).map (fun d => d.parameters.length) = some 0 := by decide +kernel
set_option maxRecDepth 100000 in
theorem cd_B_stackRoom : Cond.code y_B_stackRoom b_B_stackRoom 1 (some .int) ∈ gw ∧ Cond.initialized y_B_stackRoom.cls ∈ gw ∧ Cond.instanceMethod y_B_stackRoom ∈ gw ∧ Cond.selects y_B_stackRoom.cls y_B_stackRoom y_B_stackRoom ∈ gw := ⟨List.mem_filter.mpr ⟨List.mem_of_getElem? (i := 243) (by decide +kernel), by decide +kernel⟩, ini_B, List.mem_filter.mpr ⟨List.mem_of_getElem? (i := 241) (by decide +kernel), by decide +kernel⟩, List.mem_filter.mpr ⟨List.mem_of_getElem? (i := 242) (by decide +kernel), by decide +kernel⟩⟩
set_option maxRecDepth 100000 in
theorem dd_B_stackRoom : (y_B_stackRoom.cls ≠ "java/lang/invoke/MethodHandle" ∧ y_B_stackRoom.cls ≠ "java/lang/invoke/VarHandle") ∧ (parseMethodDescriptor y_B_stackRoom.desc).map (fun d => d.parameters.length) = some 0 := by decide +kernel
set_option maxRecDepth 100000 in
theorem cd_B_rows : Cond.code y_B_rows b_B_rows 1 (some .int) ∈ gw ∧ Cond.initialized y_B_rows.cls ∈ gw ∧ Cond.instanceMethod y_B_rows ∈ gw ∧ Cond.selects y_B_rows.cls y_B_rows y_B_rows ∈ gw := ⟨List.mem_filter.mpr ⟨List.mem_of_getElem? (i := 247) (by decide +kernel), by decide +kernel⟩, ini_B, List.mem_filter.mpr ⟨List.mem_of_getElem? (i := 245) (by decide +kernel), by decide +kernel⟩, List.mem_filter.mpr ⟨List.mem_of_getElem? (i := 246) (by decide +kernel), by decide +kernel⟩⟩
set_option maxRecDepth 100000 in
theorem dd_B_rows : (y_B_rows.cls ≠ "java/lang/invoke/MethodHandle" ∧ y_B_rows.cls ≠ "java/lang/invoke/VarHandle") ∧ (parseMethodDescriptor y_B_rows.desc).map (fun d => d.parameters.length) = some 0 := by decide +kernel
set_option maxRecDepth 100000 in
theorem cd_M_init : Cond.code y_M_init b_M_init 1 none ∈ gw ∧ Cond.initialized y_M_init.cls ∈ gw ∧ Cond.instanceMethod y_M_init ∈ gw ∧ y_M_init.name = "<init>" := ⟨List.mem_filter.mpr ⟨List.mem_of_getElem? (i := 252) (by decide +kernel), by decide +kernel⟩, ini_M, List.mem_filter.mpr ⟨List.mem_of_getElem? (i := 251) (by decide +kernel), by decide +kernel⟩, rfl⟩
set_option maxRecDepth 100000 in
theorem dd_M_init : (y_M_init.cls ≠ "java/lang/invoke/MethodHandle" ∧ y_M_init.cls ≠ "java/lang/invoke/VarHandle") ∧ (parseMethodDescriptor y_M_init.desc).map (fun d => d.parameters.length) = some 0 := by decide +kernel
set_option maxRecDepth 100000 in
theorem cd_M_rows : Cond.code y_M_rows b_M_rows 1 (some .int) ∈ gw ∧ Cond.initialized y_M_rows.cls ∈ gw ∧ Cond.instanceMethod y_M_rows ∈ gw ∧ Cond.selects y_M_rows.cls y_M_rows y_M_rows ∈ gw := ⟨List.mem_filter.mpr ⟨List.mem_of_getElem? (i := 291) (by decide +kernel), by decide +kernel⟩, ini_M, List.mem_filter.mpr ⟨List.mem_of_getElem? (i := 289) (by decide +kernel), by decide +kernel⟩, List.mem_filter.mpr ⟨List.mem_of_getElem? (i := 290) (by decide +kernel), by decide +kernel⟩⟩
set_option maxRecDepth 100000 in
theorem dd_M_rows : (y_M_rows.cls ≠ "java/lang/invoke/MethodHandle" ∧ y_M_rows.cls ≠ "java/lang/invoke/VarHandle") ∧ (parseMethodDescriptor y_M_rows.desc).map (fun d => d.parameters.length) = some 0 := by decide +kernel
set_option maxRecDepth 100000 in
theorem cd_M_room : Cond.code y_M_room b_M_room 5 (some .int) ∈ gw ∧ Cond.initialized y_M_room.cls ∈ gw ∧ Cond.instanceMethod y_M_room ∈ gw ∧ Cond.selects y_M_room.cls y_M_room y_M_room ∈ gw := ⟨List.mem_filter.mpr ⟨List.mem_of_getElem? (i := 295) (by decide +kernel), by decide +kernel⟩, ini_M, List.mem_filter.mpr ⟨List.mem_of_getElem? (i := 293) (by decide +kernel), by decide +kernel⟩, List.mem_filter.mpr ⟨List.mem_of_getElem? (i := 294) (by decide +kernel), by decide +kernel⟩⟩
set_option maxRecDepth 100000 in
theorem dd_M_room : (y_M_room.cls ≠ "java/lang/invoke/MethodHandle" ∧ y_M_room.cls ≠ "java/lang/invoke/VarHandle") ∧ (parseMethodDescriptor y_M_room.desc).map (fun d => d.parameters.length) = some 0 := by decide +kernel
set_option maxRecDepth 100000 in
theorem cd_M_layValue : Cond.code y_M_layValue b_M_layValue 7 (some .int) ∈ gw ∧ Cond.initialized y_M_layValue.cls ∈ gw ∧ Cond.instanceMethod y_M_layValue ∈ gw ∧ Cond.selects y_M_layValue.cls y_M_layValue y_M_layValue ∈ gw := ⟨List.mem_filter.mpr ⟨List.mem_of_getElem? (i := 299) (by decide +kernel), by decide +kernel⟩, ini_M, List.mem_filter.mpr ⟨List.mem_of_getElem? (i := 298) (by decide +kernel), by decide +kernel⟩, List.mem_filter.mpr ⟨List.mem_of_getElem? (i := 8) (by decide +kernel), by decide +kernel⟩⟩
set_option maxRecDepth 100000 in
theorem dd_M_layValue : (y_M_layValue.cls ≠ "java/lang/invoke/MethodHandle" ∧ y_M_layValue.cls ≠ "java/lang/invoke/VarHandle") ∧ (parseMethodDescriptor y_M_layValue.desc).map (fun d => d.parameters.length) = some 3 := by decide +kernel
set_option maxRecDepth 100000 in
theorem cd_M_goAlong : Cond.code y_M_goAlong b_M_goAlong 8 (some .int) ∈ gw ∧ Cond.initialized y_M_goAlong.cls ∈ gw ∧ Cond.instanceMethod y_M_goAlong ∈ gw ∧ Cond.selects y_M_goAlong.cls y_M_goAlong y_M_goAlong ∈ gw := ⟨List.mem_filter.mpr ⟨List.mem_of_getElem? (i := 303) (by decide +kernel), by decide +kernel⟩, ini_M, List.mem_filter.mpr ⟨List.mem_of_getElem? (i := 302) (by decide +kernel), by decide +kernel⟩, List.mem_filter.mpr ⟨List.mem_of_getElem? (i := 9) (by decide +kernel), by decide +kernel⟩⟩
set_option maxRecDepth 100000 in
theorem dd_M_goAlong : (y_M_goAlong.cls ≠ "java/lang/invoke/MethodHandle" ∧ y_M_goAlong.cls ≠ "java/lang/invoke/VarHandle") ∧ (parseMethodDescriptor y_M_goAlong.desc).map (fun d => d.parameters.length) = some 3 := by decide +kernel
set_option maxRecDepth 100000 in
theorem cd_M_see : Cond.code y_M_see b_M_see 2 none ∈ gw ∧ Cond.initialized y_M_see.cls ∈ gw ∧ Cond.instanceMethod y_M_see ∈ gw ∧ Cond.selects y_M_see.cls y_M_see y_M_see ∈ gw := ⟨List.mem_filter.mpr ⟨List.mem_of_getElem? (i := 309) (by decide +kernel), by decide +kernel⟩, ini_M, List.mem_filter.mpr ⟨List.mem_of_getElem? (i := 308) (by decide +kernel), by decide +kernel⟩, List.mem_filter.mpr ⟨List.mem_of_getElem? (i := 10) (by decide +kernel), by decide +kernel⟩⟩
set_option maxRecDepth 100000 in
theorem dd_M_see : (y_M_see.cls ≠ "java/lang/invoke/MethodHandle" ∧ y_M_see.cls ≠ "java/lang/invoke/VarHandle") ∧ (parseMethodDescriptor y_M_see.desc).map (fun d => d.parameters.length) = some 1 := by decide +kernel
set_option maxRecDepth 100000 in
theorem cd_M_literal : Cond.code y_M_literal b_M_literal 9 (some .int) ∈ gw ∧ Cond.initialized y_M_literal.cls ∈ gw ∧ Cond.instanceMethod y_M_literal ∈ gw ∧ Cond.selects y_M_literal.cls y_M_literal y_M_literal ∈ gw := ⟨List.mem_filter.mpr ⟨List.mem_of_getElem? (i := 313) (by decide +kernel), by decide +kernel⟩, ini_M, List.mem_filter.mpr ⟨List.mem_of_getElem? (i := 312) (by decide +kernel), by decide +kernel⟩, List.mem_filter.mpr ⟨List.mem_of_getElem? (i := 11) (by decide +kernel), by decide +kernel⟩⟩
set_option maxRecDepth 100000 in
theorem dd_M_literal : (y_M_literal.cls ≠ "java/lang/invoke/MethodHandle" ∧ y_M_literal.cls ≠ "java/lang/invoke/VarHandle") ∧ (parseMethodDescriptor y_M_literal.desc).map (fun d => d.parameters.length) = some 2 := by decide +kernel
set_option maxRecDepth 100000 in
theorem cd_M_append : Cond.code y_M_append b_M_append 6 (some .int) ∈ gw ∧ Cond.initialized y_M_append.cls ∈ gw ∧ Cond.instanceMethod y_M_append ∈ gw ∧ Cond.selects y_M_append.cls y_M_append y_M_append ∈ gw := ⟨List.mem_filter.mpr ⟨List.mem_of_getElem? (i := 317) (by decide +kernel), by decide +kernel⟩, ini_M, List.mem_filter.mpr ⟨List.mem_of_getElem? (i := 315) (by decide +kernel), by decide +kernel⟩, List.mem_filter.mpr ⟨List.mem_of_getElem? (i := 316) (by decide +kernel), by decide +kernel⟩⟩
set_option maxRecDepth 100000 in
theorem dd_M_append : (y_M_append.cls ≠ "java/lang/invoke/MethodHandle" ∧ y_M_append.cls ≠ "java/lang/invoke/VarHandle") ∧ (parseMethodDescriptor y_M_append.desc).map (fun d => d.parameters.length) = some 3 := by decide +kernel
set_option maxRecDepth 100000 in
theorem cd_M_stackRoom : Cond.code y_M_stackRoom b_M_stackRoom 3 (some .int) ∈ gw ∧ Cond.initialized y_M_stackRoom.cls ∈ gw ∧ Cond.instanceMethod y_M_stackRoom ∈ gw ∧ Cond.selects y_M_stackRoom.cls y_M_stackRoom y_M_stackRoom ∈ gw := ⟨List.mem_filter.mpr ⟨List.mem_of_getElem? (i := 323) (by decide +kernel), by decide +kernel⟩, ini_M, List.mem_filter.mpr ⟨List.mem_of_getElem? (i := 321) (by decide +kernel), by decide +kernel⟩, List.mem_filter.mpr ⟨List.mem_of_getElem? (i := 322) (by decide +kernel), by decide +kernel⟩⟩
set_option maxRecDepth 100000 in
theorem dd_M_stackRoom : (y_M_stackRoom.cls ≠ "java/lang/invoke/MethodHandle" ∧ y_M_stackRoom.cls ≠ "java/lang/invoke/VarHandle") ∧ (parseMethodDescriptor y_M_stackRoom.desc).map (fun d => d.parameters.length) = some 0 := by decide +kernel
set_option maxRecDepth 100000 in
theorem cd_M_wordsOf : Cond.code y_M_wordsOf b_M_wordsOf 2 (some .int) ∈ gw ∧ Cond.initialized y_M_wordsOf.cls ∈ gw ∧ Cond.instanceMethod y_M_wordsOf ∈ gw ∧ Cond.selects y_M_wordsOf.cls y_M_wordsOf y_M_wordsOf ∈ gw := ⟨List.mem_filter.mpr ⟨List.mem_of_getElem? (i := 327) (by decide +kernel), by decide +kernel⟩, ini_M, List.mem_filter.mpr ⟨List.mem_of_getElem? (i := 326) (by decide +kernel), by decide +kernel⟩, List.mem_filter.mpr ⟨List.mem_of_getElem? (i := 12) (by decide +kernel), by decide +kernel⟩⟩
set_option maxRecDepth 100000 in
theorem dd_M_wordsOf : (y_M_wordsOf.cls ≠ "java/lang/invoke/MethodHandle" ∧ y_M_wordsOf.cls ≠ "java/lang/invoke/VarHandle") ∧ (parseMethodDescriptor y_M_wordsOf.desc).map (fun d => d.parameters.length) = some 1 := by decide +kernel
set_option maxRecDepth 100000 in
theorem cd_M_push : Cond.code y_M_push b_M_push 3 (some .int) ∈ gw ∧ Cond.initialized y_M_push.cls ∈ gw ∧ Cond.instanceMethod y_M_push ∈ gw ∧ Cond.selects y_M_push.cls y_M_push y_M_push ∈ gw := ⟨List.mem_filter.mpr ⟨List.mem_of_getElem? (i := 331) (by decide +kernel), by decide +kernel⟩, ini_M, List.mem_filter.mpr ⟨List.mem_of_getElem? (i := 329) (by decide +kernel), by decide +kernel⟩, List.mem_filter.mpr ⟨List.mem_of_getElem? (i := 330) (by decide +kernel), by decide +kernel⟩⟩
set_option maxRecDepth 100000 in
theorem dd_M_push : (y_M_push.cls ≠ "java/lang/invoke/MethodHandle" ∧ y_M_push.cls ≠ "java/lang/invoke/VarHandle") ∧ (parseMethodDescriptor y_M_push.desc).map (fun d => d.parameters.length) = some 2 := by decide +kernel
set_option maxRecDepth 100000 in
theorem cd_M_comes : Cond.code y_M_comes b_M_comes 2 (some .boolean) ∈ gw ∧ Cond.initialized y_M_comes.cls ∈ gw ∧ Cond.instanceMethod y_M_comes ∈ gw ∧ Cond.selects y_M_comes.cls y_M_comes y_M_comes ∈ gw := ⟨List.mem_filter.mpr ⟨List.mem_of_getElem? (i := 335) (by decide +kernel), by decide +kernel⟩, ini_M, List.mem_filter.mpr ⟨List.mem_of_getElem? (i := 334) (by decide +kernel), by decide +kernel⟩, List.mem_filter.mpr ⟨List.mem_of_getElem? (i := 13) (by decide +kernel), by decide +kernel⟩⟩
set_option maxRecDepth 100000 in
theorem dd_M_comes : (y_M_comes.cls ≠ "java/lang/invoke/MethodHandle" ∧ y_M_comes.cls ≠ "java/lang/invoke/VarHandle") ∧ (parseMethodDescriptor y_M_comes.desc).map (fun d => d.parameters.length) = some 1 := by decide +kernel
set_option maxRecDepth 100000 in
theorem cd_M_copy : Cond.code y_M_copy b_M_copy 4 (some .int) ∈ gw ∧ Cond.initialized y_M_copy.cls ∈ gw ∧ Cond.instanceMethod y_M_copy ∈ gw ∧ Cond.selects y_M_copy.cls y_M_copy y_M_copy ∈ gw := ⟨List.mem_filter.mpr ⟨List.mem_of_getElem? (i := 340) (by decide +kernel), by decide +kernel⟩, ini_M, List.mem_filter.mpr ⟨List.mem_of_getElem? (i := 338) (by decide +kernel), by decide +kernel⟩, List.mem_filter.mpr ⟨List.mem_of_getElem? (i := 339) (by decide +kernel), by decide +kernel⟩⟩
set_option maxRecDepth 100000 in
theorem dd_M_copy : (y_M_copy.cls ≠ "java/lang/invoke/MethodHandle" ∧ y_M_copy.cls ≠ "java/lang/invoke/VarHandle") ∧ (parseMethodDescriptor y_M_copy.desc).map (fun d => d.parameters.length) = some 0 := by decide +kernel
set_option maxRecDepth 100000 in
theorem cd_M_join : Cond.code y_M_join b_M_join 3 (some .int) ∈ gw ∧ Cond.initialized y_M_join.cls ∈ gw ∧ Cond.instanceMethod y_M_join ∈ gw ∧ Cond.selects y_M_join.cls y_M_join y_M_join ∈ gw := ⟨List.mem_filter.mpr ⟨List.mem_of_getElem? (i := 344) (by decide +kernel), by decide +kernel⟩, ini_M, List.mem_filter.mpr ⟨List.mem_of_getElem? (i := 342) (by decide +kernel), by decide +kernel⟩, List.mem_filter.mpr ⟨List.mem_of_getElem? (i := 343) (by decide +kernel), by decide +kernel⟩⟩
set_option maxRecDepth 100000 in
theorem dd_M_join : (y_M_join.cls ≠ "java/lang/invoke/MethodHandle" ∧ y_M_join.cls ≠ "java/lang/invoke/VarHandle") ∧ (parseMethodDescriptor y_M_join.desc).map (fun d => d.parameters.length) = some 1 := by decide +kernel
set_option maxRecDepth 100000 in
theorem cd_M_layJoined : Cond.code y_M_layJoined b_M_layJoined 16 (some .int) ∈ gw ∧ Cond.initialized y_M_layJoined.cls ∈ gw ∧ Cond.instanceMethod y_M_layJoined ∈ gw ∧ Cond.selects y_M_layJoined.cls y_M_layJoined y_M_layJoined ∈ gw := ⟨List.mem_filter.mpr ⟨List.mem_of_getElem? (i := 348) (by decide +kernel), by decide +kernel⟩, ini_M, List.mem_filter.mpr ⟨List.mem_of_getElem? (i := 347) (by decide +kernel), by decide +kernel⟩, List.mem_filter.mpr ⟨List.mem_of_getElem? (i := 14) (by decide +kernel), by decide +kernel⟩⟩
set_option maxRecDepth 100000 in
theorem dd_M_layJoined : (y_M_layJoined.cls ≠ "java/lang/invoke/MethodHandle" ∧ y_M_layJoined.cls ≠ "java/lang/invoke/VarHandle") ∧ (parseMethodDescriptor y_M_layJoined.desc).map (fun d => d.parameters.length) = some 6 := by decide +kernel
set_option maxRecDepth 100000 in
theorem cd_M_is : Cond.code y_M_is b_M_is 3 (some .boolean) ∈ gw ∧ Cond.initialized y_M_is.cls ∈ gw ∧ Cond.static y_M_is ∈ gw := ⟨List.mem_filter.mpr ⟨List.mem_of_getElem? (i := 351) (by decide +kernel), by decide +kernel⟩, ini_M, List.mem_filter.mpr ⟨List.mem_of_getElem? (i := 350) (by decide +kernel), by decide +kernel⟩⟩
set_option maxRecDepth 100000 in
theorem dd_M_is : (y_M_is.cls ≠ "java/lang/invoke/MethodHandle" ∧ y_M_is.cls ≠ "java/lang/invoke/VarHandle") ∧ (parseMethodDescriptor y_M_is.desc).map (fun d => d.parameters.length) = some 3 := by decide +kernel
set_option maxRecDepth 100000 in
theorem cd_M_become : Cond.code y_M_become b_M_become 7 (some .boolean) ∈ gw ∧ Cond.initialized y_M_become.cls ∈ gw ∧ Cond.instanceMethod y_M_become ∈ gw ∧ Cond.selects y_M_become.cls y_M_become y_M_become ∈ gw := ⟨List.mem_filter.mpr ⟨List.mem_of_getElem? (i := 355) (by decide +kernel), by decide +kernel⟩, ini_M, List.mem_filter.mpr ⟨List.mem_of_getElem? (i := 354) (by decide +kernel), by decide +kernel⟩, List.mem_filter.mpr ⟨List.mem_of_getElem? (i := 15) (by decide +kernel), by decide +kernel⟩⟩
set_option maxRecDepth 100000 in
theorem dd_M_become : (y_M_become.cls ≠ "java/lang/invoke/MethodHandle" ∧ y_M_become.cls ≠ "java/lang/invoke/VarHandle") ∧ (parseMethodDescriptor y_M_become.desc).map (fun d => d.parameters.length) = some 2 := by decide +kernel
set_option maxRecDepth 100000 in
theorem cd_M_not : Cond.code y_M_not b_M_not 5 (some .int) ∈ gw ∧ Cond.initialized y_M_not.cls ∈ gw ∧ Cond.instanceMethod y_M_not ∈ gw ∧ Cond.selects y_M_not.cls y_M_not y_M_not ∈ gw := ⟨List.mem_filter.mpr ⟨List.mem_of_getElem? (i := 359) (by decide +kernel), by decide +kernel⟩, ini_M, List.mem_filter.mpr ⟨List.mem_of_getElem? (i := 357) (by decide +kernel), by decide +kernel⟩, List.mem_filter.mpr ⟨List.mem_of_getElem? (i := 358) (by decide +kernel), by decide +kernel⟩⟩
set_option maxRecDepth 100000 in
theorem dd_M_not : (y_M_not.cls ≠ "java/lang/invoke/MethodHandle" ∧ y_M_not.cls ≠ "java/lang/invoke/VarHandle") ∧ (parseMethodDescriptor y_M_not.desc).map (fun d => d.parameters.length) = some 0 := by decide +kernel
set_option maxRecDepth 100000 in
theorem cd_M_count : Cond.code y_M_count b_M_count 3 (some .int) ∈ gw ∧ Cond.initialized y_M_count.cls ∈ gw ∧ Cond.instanceMethod y_M_count ∈ gw ∧ Cond.selects y_M_count.cls y_M_count y_M_count ∈ gw := ⟨List.mem_filter.mpr ⟨List.mem_of_getElem? (i := 363) (by decide +kernel), by decide +kernel⟩, ini_M, List.mem_filter.mpr ⟨List.mem_of_getElem? (i := 361) (by decide +kernel), by decide +kernel⟩, List.mem_filter.mpr ⟨List.mem_of_getElem? (i := 362) (by decide +kernel), by decide +kernel⟩⟩
set_option maxRecDepth 100000 in
theorem dd_M_count : (y_M_count.cls ≠ "java/lang/invoke/MethodHandle" ∧ y_M_count.cls ≠ "java/lang/invoke/VarHandle") ∧ (parseMethodDescriptor y_M_count.desc).map (fun d => d.parameters.length) = some 0 := by decide +kernel
set_option maxRecDepth 100000 in
theorem cd_M_after : Cond.code y_M_after b_M_after 3 (some .int) ∈ gw ∧ Cond.initialized y_M_after.cls ∈ gw ∧ Cond.instanceMethod y_M_after ∈ gw ∧ Cond.selects y_M_after.cls y_M_after y_M_after ∈ gw := ⟨List.mem_filter.mpr ⟨List.mem_of_getElem? (i := 367) (by decide +kernel), by decide +kernel⟩, ini_M, List.mem_filter.mpr ⟨List.mem_of_getElem? (i := 365) (by decide +kernel), by decide +kernel⟩, List.mem_filter.mpr ⟨List.mem_of_getElem? (i := 366) (by decide +kernel), by decide +kernel⟩⟩
set_option maxRecDepth 100000 in
theorem dd_M_after : (y_M_after.cls ≠ "java/lang/invoke/MethodHandle" ∧ y_M_after.cls ≠ "java/lang/invoke/VarHandle") ∧ (parseMethodDescriptor y_M_after.desc).map (fun d => d.parameters.length) = some 1 := by decide +kernel
set_option maxRecDepth 100000 in
theorem cd_M_words : Cond.code y_M_words b_M_words 1 (some .int) ∈ gw ∧ Cond.initialized y_M_words.cls ∈ gw ∧ Cond.instanceMethod y_M_words ∈ gw ∧ Cond.selects y_M_words.cls y_M_words y_M_words ∈ gw := ⟨List.mem_filter.mpr ⟨List.mem_of_getElem? (i := 371) (by decide +kernel), by decide +kernel⟩, ini_M, List.mem_filter.mpr ⟨List.mem_of_getElem? (i := 369) (by decide +kernel), by decide +kernel⟩, List.mem_filter.mpr ⟨List.mem_of_getElem? (i := 370) (by decide +kernel), by decide +kernel⟩⟩
set_option maxRecDepth 100000 in
theorem dd_M_words : (y_M_words.cls ≠ "java/lang/invoke/MethodHandle" ∧ y_M_words.cls ≠ "java/lang/invoke/VarHandle") ∧ (parseMethodDescriptor y_M_words.desc).map (fun d => d.parameters.length) = some 0 := by decide +kernel
set_option maxRecDepth 100000 in
theorem cd_M_word : Cond.code y_M_word b_M_word 3 (some .int) ∈ gw ∧ Cond.initialized y_M_word.cls ∈ gw ∧ Cond.instanceMethod y_M_word ∈ gw ∧ Cond.selects y_M_word.cls y_M_word y_M_word ∈ gw := ⟨List.mem_filter.mpr ⟨List.mem_of_getElem? (i := 375) (by decide +kernel), by decide +kernel⟩, ini_M, List.mem_filter.mpr ⟨List.mem_of_getElem? (i := 373) (by decide +kernel), by decide +kernel⟩, List.mem_filter.mpr ⟨List.mem_of_getElem? (i := 374) (by decide +kernel), by decide +kernel⟩⟩
set_option maxRecDepth 100000 in
theorem dd_M_word : (y_M_word.cls ≠ "java/lang/invoke/MethodHandle" ∧ y_M_word.cls ≠ "java/lang/invoke/VarHandle") ∧ (parseMethodDescriptor y_M_word.desc).map (fun d => d.parameters.length) = some 1 := by decide +kernel
set_option maxRecDepth 100000 in
theorem cd_M_pop : Cond.code y_M_pop b_M_pop 1 (some .int) ∈ gw ∧ Cond.initialized y_M_pop.cls ∈ gw ∧ Cond.instanceMethod y_M_pop ∈ gw ∧ Cond.selects y_M_pop.cls y_M_pop y_M_pop ∈ gw := ⟨List.mem_filter.mpr ⟨List.mem_of_getElem? (i := 379) (by decide +kernel), by decide +kernel⟩, ini_M, List.mem_filter.mpr ⟨List.mem_of_getElem? (i := 377) (by decide +kernel), by decide +kernel⟩, List.mem_filter.mpr ⟨List.mem_of_getElem? (i := 378) (by decide +kernel), by decide +kernel⟩⟩
set_option maxRecDepth 100000 in
theorem dd_M_pop : (y_M_pop.cls ≠ "java/lang/invoke/MethodHandle" ∧ y_M_pop.cls ≠ "java/lang/invoke/VarHandle") ∧ (parseMethodDescriptor y_M_pop.desc).map (fun d => d.parameters.length) = some 0 := by decide +kernel
end
